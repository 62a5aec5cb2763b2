theorem dX0_init_0 : decode cX0_init 0 = .ok (.aload_n 0, 1) := by decide +kernel
theorem dX0_init_1 : decode cX0_init 1 = .ok (.invokespecial 3, 3) := by decide +kernel
theorem dX0_init_4 : decode cX0_init 4 = .ok (.aload_n 0, 1) := by decide +kernel
theorem dX0_init_5 : decode cX0_init 5 = .ok (.bipush 80, 2) := by decide +kernel
theorem dX0_init_7 : decode cX0_init 7 = .ok (.newarray .char, 2) := by decide +kernel
theorem dX0_init_9 : decode cX0_init 9 = .ok (.putfield 9, 3) := by decide +kernel
theorem dX0_init_12 : decode cX0_init 12 = .ok (.return_, 1) := by decide +kernel
theorem dX0_append_0 : decode cX0_append 0 = .ok (.aload_n 0, 1) := by decide +kernel
theorem dX0_append_1 : decode cX0_append 1 = .ok (.getfield 15, 3) := by decide +kernel
theorem dX0_append_4 : decode cX0_append 4 = .ok (.bipush 80, 2) := by decide +kernel
theorem dX0_append_6 : decode cX0_append 6 = .ok (.invokestatic 19, 3) := by decide +kernel
theorem dX0_append_9 : decode cX0_append 9 = .ok (.ifCond .ne 5, 3) := by decide +kernel
theorem dX0_append_12 : decode cX0_append 12 = .ok (.iconst 0, 1) := by decide +kernel
theorem dX0_append_13 : decode cX0_append 13 = .ok (.ireturn, 1) := by decide +kernel
theorem dX0_append_14 : decode cX0_append 14 = .ok (.aload_n 0, 1) := by decide +kernel
theorem dX0_append_15 : decode cX0_append 15 = .ok (.getfield 9, 3) := by decide +kernel
theorem dX0_append_18 : decode cX0_append 18 = .ok (.aload_n 0, 1) := by decide +kernel
theorem dX0_append_19 : decode cX0_append 19 = .ok (.getfield 15, 3) := by decide +kernel
theorem dX0_append_22 : decode cX0_append 22 = .ok (.iload_n 1, 1) := by decide +kernel
theorem dX0_append_23 : decode cX0_append 23 = .ok (.castore, 1) := by decide +kernel
theorem dX0_append_24 : decode cX0_append 24 = .ok (.aload_n 0, 1) := by decide +kernel
theorem dX0_append_25 : decode cX0_append 25 = .ok (.dup, 1) := by decide +kernel
theorem dX0_append_26 : decode cX0_append 26 = .ok (.getfield 15, 3) := by decide +kernel
theorem dX0_append_29 : decode cX0_append 29 = .ok (.iconst 1, 1) := by decide +kernel
theorem dX0_append_30 : decode cX0_append 30 = .ok (.iadd, 1) := by decide +kernel
theorem dX0_append_31 : decode cX0_append 31 = .ok (.putfield 15, 3) := by decide +kernel
theorem dX0_append_34 : decode cX0_append 34 = .ok (.iconst 1, 1) := by decide +kernel
theorem dX0_append_35 : decode cX0_append 35 = .ok (.ireturn, 1) := by decide +kernel
theorem dX0_signAt_0 : decode cX0_signAt 0 = .ok (.iload_n 1, 1) := by decide +kernel
theorem dX0_signAt_1 : decode cX0_signAt 1 = .ok (.aload_n 0, 1) := by decide +kernel
theorem dX0_signAt_2 : decode cX0_signAt 2 = .ok (.getfield 15, 3) := by decide +kernel
theorem dX0_signAt_5 : decode cX0_signAt 5 = .ok (.invokestatic 19, 3) := by decide +kernel
theorem dX0_signAt_8 : decode cX0_signAt 8 = .ok (.ifCond .eq 21, 3) := by decide +kernel
theorem dX0_signAt_11 : decode cX0_signAt 11 = .ok (.iload_n 1, 1) := by decide +kernel
theorem dX0_signAt_12 : decode cX0_signAt 12 = .ok (.bipush 80, 2) := by decide +kernel
theorem dX0_signAt_14 : decode cX0_signAt 14 = .ok (.invokestatic 19, 3) := by decide +kernel
theorem dX0_signAt_17 : decode cX0_signAt 17 = .ok (.ifCond .eq 12, 3) := by decide +kernel
theorem dX0_signAt_20 : decode cX0_signAt 20 = .ok (.aload_n 0, 1) := by decide +kernel
theorem dX0_signAt_21 : decode cX0_signAt 21 = .ok (.getfield 9, 3) := by decide +kernel
theorem dX0_signAt_24 : decode cX0_signAt 24 = .ok (.iload_n 1, 1) := by decide +kernel
theorem dX0_signAt_25 : decode cX0_signAt 25 = .ok (.caload, 1) := by decide +kernel
theorem dX0_signAt_26 : decode cX0_signAt 26 = .ok (.goto 4, 3) := by decide +kernel
theorem dX0_signAt_29 : decode cX0_signAt 29 = .ok (.iconst 0, 1) := by decide +kernel
theorem dX0_signAt_30 : decode cX0_signAt 30 = .ok (.ireturn, 1) := by decide +kernel
theorem dX0_digitAt_0 : decode cX0_digitAt 0 = .ok (.aload_n 0, 1) := by decide +kernel
theorem dX0_digitAt_1 : decode cX0_digitAt 1 = .ok (.iload_n 1, 1) := by decide +kernel
theorem dX0_digitAt_2 : decode cX0_digitAt 2 = .ok (.invokevirtual 23, 3) := by decide +kernel
theorem dX0_digitAt_5 : decode cX0_digitAt 5 = .ok (.bipush 48, 2) := by decide +kernel
theorem dX0_digitAt_7 : decode cX0_digitAt 7 = .ok (.isub, 1) := by decide +kernel
theorem dX0_digitAt_8 : decode cX0_digitAt 8 = .ok (.ireturn, 1) := by decide +kernel
theorem dX0_firstError_0 : decode cX0_firstError 0 = .ok (.iconst 0, 1) := by decide +kernel
theorem dX0_firstError_1 : decode cX0_firstError 1 = .ok (.istore_n 1, 1) := by decide +kernel
theorem dX0_firstError_2 : decode cX0_firstError 2 = .ok (.iconst 0, 1) := by decide +kernel
theorem dX0_firstError_3 : decode cX0_firstError 3 = .ok (.istore_n 2, 1) := by decide +kernel
theorem dX0_firstError_4 : decode cX0_firstError 4 = .ok (.iload_n 2, 1) := by decide +kernel
theorem dX0_firstError_5 : decode cX0_firstError 5 = .ok (.aload_n 0, 1) := by decide +kernel
theorem dX0_firstError_6 : decode cX0_firstError 6 = .ok (.getfield 15, 3) := by decide +kernel
theorem dX0_firstError_9 : decode cX0_firstError 9 = .ok (.if_icmp .ge 27, 3) := by decide +kernel
theorem dX0_firstError_12 : decode cX0_firstError 12 = .ok (.iload_n 1, 1) := by decide +kernel
theorem dX0_firstError_13 : decode cX0_firstError 13 = .ok (.aload_n 0, 1) := by decide +kernel
theorem dX0_firstError_14 : decode cX0_firstError 14 = .ok (.iload_n 2, 1) := by decide +kernel
theorem dX0_firstError_15 : decode cX0_firstError 15 = .ok (.invokevirtual 23, 3) := by decide +kernel
theorem dX0_firstError_18 : decode cX0_firstError 18 = .ok (.invokestatic 27, 3) := by decide +kernel
theorem dX0_firstError_21 : decode cX0_firstError 21 = .ok (.istore_n 1, 1) := by decide +kernel
theorem dX0_firstError_22 : decode cX0_firstError 22 = .ok (.iload_n 1, 1) := by decide +kernel
theorem dX0_firstError_23 : decode cX0_firstError 23 = .ok (.bipush 11, 2) := by decide +kernel
theorem dX0_firstError_25 : decode cX0_firstError 25 = .ok (.if_icmp .ne 5, 3) := by decide +kernel
theorem dX0_firstError_28 : decode cX0_firstError 28 = .ok (.iload_n 2, 1) := by decide +kernel
theorem dX0_firstError_29 : decode cX0_firstError 29 = .ok (.ireturn, 1) := by decide +kernel
theorem dX0_firstError_30 : decode cX0_firstError 30 = .ok (.iinc 2 1, 3) := by decide +kernel
theorem dX0_firstError_33 : decode cX0_firstError 33 = .ok (.goto (-29), 3) := by decide +kernel
theorem dX0_firstError_36 : decode cX0_firstError 36 = .ok (.iload_n 1, 1) := by decide +kernel
theorem dX0_firstError_37 : decode cX0_firstError 37 = .ok (.bipush 9, 2) := by decide +kernel
theorem dX0_firstError_39 : decode cX0_firstError 39 = .ok (.if_icmp .eq 9, 3) := by decide +kernel
theorem dX0_firstError_42 : decode cX0_firstError 42 = .ok (.iload_n 1, 1) := by decide +kernel
theorem dX0_firstError_43 : decode cX0_firstError 43 = .ok (.bipush 10, 2) := by decide +kernel
theorem dX0_firstError_45 : decode cX0_firstError 45 = .ok (.if_icmp .ne 8, 3) := by decide +kernel
theorem dX0_firstError_48 : decode cX0_firstError 48 = .ok (.bipush (-6), 2) := by decide +kernel
theorem dX0_firstError_50 : decode cX0_firstError 50 = .ok (.goto 7, 3) := by decide +kernel
theorem dX0_firstError_53 : decode cX0_firstError 53 = .ok (.aload_n 0, 1) := by decide +kernel
theorem dX0_firstError_54 : decode cX0_firstError 54 = .ok (.getfield 15, 3) := by decide +kernel
theorem dX0_firstError_57 : decode cX0_firstError 57 = .ok (.ireturn, 1) := by decide +kernel
theorem dX0_expectedAfter_0 : decode cX0_expectedAfter 0 = .ok (.iload_n 0, 1) := by decide +kernel
theorem dX0_expectedAfter_1 : decode cX0_expectedAfter 1 = .ok (.tableswitch 222 0 10 #[59, 78, 91, 110, 123, 137, 154, 171, 176, 200, 217], 59) := by decide +kernel
theorem dX0_expectedAfter_60 : decode cX0_expectedAfter 60 = .ok (.iload_n 1, 1) := by decide +kernel
theorem dX0_expectedAfter_61 : decode cX0_expectedAfter 61 = .ok (.bipush 48, 2) := by decide +kernel
theorem dX0_expectedAfter_63 : decode cX0_expectedAfter 63 = .ok (.if_icmp .lt 13, 3) := by decide +kernel
theorem dX0_expectedAfter_66 : decode cX0_expectedAfter 66 = .ok (.iload_n 1, 1) := by decide +kernel
theorem dX0_expectedAfter_67 : decode cX0_expectedAfter 67 = .ok (.bipush 55, 2) := by decide +kernel
theorem dX0_expectedAfter_69 : decode cX0_expectedAfter 69 = .ok (.if_icmp .gt 7, 3) := by decide +kernel
theorem dX0_expectedAfter_72 : decode cX0_expectedAfter 72 = .ok (.iconst 1, 1) := by decide +kernel
theorem dX0_expectedAfter_73 : decode cX0_expectedAfter 73 = .ok (.goto 5, 3) := by decide +kernel
theorem dX0_expectedAfter_76 : decode cX0_expectedAfter 76 = .ok (.bipush 11, 2) := by decide +kernel
theorem dX0_expectedAfter_78 : decode cX0_expectedAfter 78 = .ok (.ireturn, 1) := by decide +kernel
theorem dX0_expectedAfter_79 : decode cX0_expectedAfter 79 = .ok (.iload_n 1, 1) := by decide +kernel
theorem dX0_expectedAfter_80 : decode cX0_expectedAfter 80 = .ok (.bipush 46, 2) := by decide +kernel
theorem dX0_expectedAfter_82 : decode cX0_expectedAfter 82 = .ok (.if_icmp .ne 7, 3) := by decide +kernel
theorem dX0_expectedAfter_85 : decode cX0_expectedAfter 85 = .ok (.iconst 2, 1) := by decide +kernel
theorem dX0_expectedAfter_86 : decode cX0_expectedAfter 86 = .ok (.goto 5, 3) := by decide +kernel
theorem dX0_expectedAfter_89 : decode cX0_expectedAfter 89 = .ok (.bipush 11, 2) := by decide +kernel
theorem dX0_expectedAfter_91 : decode cX0_expectedAfter 91 = .ok (.ireturn, 1) := by decide +kernel
theorem dX0_expectedAfter_92 : decode cX0_expectedAfter 92 = .ok (.iload_n 1, 1) := by decide +kernel
theorem dX0_expectedAfter_93 : decode cX0_expectedAfter 93 = .ok (.bipush 48, 2) := by decide +kernel
theorem dX0_expectedAfter_95 : decode cX0_expectedAfter 95 = .ok (.if_icmp .lt 13, 3) := by decide +kernel
theorem dX0_expectedAfter_98 : decode cX0_expectedAfter 98 = .ok (.iload_n 1, 1) := by decide +kernel
theorem dX0_expectedAfter_99 : decode cX0_expectedAfter 99 = .ok (.bipush 53, 2) := by decide +kernel
theorem dX0_expectedAfter_101 : decode cX0_expectedAfter 101 = .ok (.if_icmp .gt 7, 3) := by decide +kernel
theorem dX0_expectedAfter_104 : decode cX0_expectedAfter 104 = .ok (.iconst 3, 1) := by decide +kernel
theorem dX0_expectedAfter_105 : decode cX0_expectedAfter 105 = .ok (.goto 5, 3) := by decide +kernel
theorem dX0_expectedAfter_108 : decode cX0_expectedAfter 108 = .ok (.bipush 11, 2) := by decide +kernel
theorem dX0_expectedAfter_110 : decode cX0_expectedAfter 110 = .ok (.ireturn, 1) := by decide +kernel
theorem dX0_expectedAfter_111 : decode cX0_expectedAfter 111 = .ok (.iload_n 1, 1) := by decide +kernel
theorem dX0_expectedAfter_112 : decode cX0_expectedAfter 112 = .ok (.bipush 61, 2) := by decide +kernel
theorem dX0_expectedAfter_114 : decode cX0_expectedAfter 114 = .ok (.if_icmp .ne 7, 3) := by decide +kernel
theorem dX0_expectedAfter_117 : decode cX0_expectedAfter 117 = .ok (.iconst 4, 1) := by decide +kernel
theorem dX0_expectedAfter_118 : decode cX0_expectedAfter 118 = .ok (.goto 5, 3) := by decide +kernel
theorem dX0_expectedAfter_121 : decode cX0_expectedAfter 121 = .ok (.bipush 11, 2) := by decide +kernel
theorem dX0_expectedAfter_123 : decode cX0_expectedAfter 123 = .ok (.ireturn, 1) := by decide +kernel
theorem dX0_expectedAfter_124 : decode cX0_expectedAfter 124 = .ok (.iload_n 1, 1) := by decide +kernel
theorem dX0_expectedAfter_125 : decode cX0_expectedAfter 125 = .ok (.invokestatic 31, 3) := by decide +kernel
theorem dX0_expectedAfter_128 : decode cX0_expectedAfter 128 = .ok (.ifCond .eq 7, 3) := by decide +kernel
theorem dX0_expectedAfter_131 : decode cX0_expectedAfter 131 = .ok (.iconst 5, 1) := by decide +kernel
theorem dX0_expectedAfter_132 : decode cX0_expectedAfter 132 = .ok (.goto 5, 3) := by decide +kernel
theorem dX0_expectedAfter_135 : decode cX0_expectedAfter 135 = .ok (.bipush 11, 2) := by decide +kernel
theorem dX0_expectedAfter_137 : decode cX0_expectedAfter 137 = .ok (.ireturn, 1) := by decide +kernel
theorem dX0_expectedAfter_138 : decode cX0_expectedAfter 138 = .ok (.iload_n 1, 1) := by decide +kernel
theorem dX0_expectedAfter_139 : decode cX0_expectedAfter 139 = .ok (.invokestatic 31, 3) := by decide +kernel
theorem dX0_expectedAfter_142 : decode cX0_expectedAfter 142 = .ok (.ifCond .eq 8, 3) := by decide +kernel
theorem dX0_expectedAfter_145 : decode cX0_expectedAfter 145 = .ok (.bipush 6, 2) := by decide +kernel
theorem dX0_expectedAfter_147 : decode cX0_expectedAfter 147 = .ok (.goto 7, 3) := by decide +kernel
theorem dX0_expectedAfter_150 : decode cX0_expectedAfter 150 = .ok (.iload_n 1, 1) := by decide +kernel
theorem dX0_expectedAfter_151 : decode cX0_expectedAfter 151 = .ok (.invokestatic 35, 3) := by decide +kernel
theorem dX0_expectedAfter_154 : decode cX0_expectedAfter 154 = .ok (.ireturn, 1) := by decide +kernel
theorem dX0_expectedAfter_155 : decode cX0_expectedAfter 155 = .ok (.iload_n 1, 1) := by decide +kernel
theorem dX0_expectedAfter_156 : decode cX0_expectedAfter 156 = .ok (.invokestatic 31, 3) := by decide +kernel
theorem dX0_expectedAfter_159 : decode cX0_expectedAfter 159 = .ok (.ifCond .eq 8, 3) := by decide +kernel
theorem dX0_expectedAfter_162 : decode cX0_expectedAfter 162 = .ok (.bipush 7, 2) := by decide +kernel
theorem dX0_expectedAfter_164 : decode cX0_expectedAfter 164 = .ok (.goto 7, 3) := by decide +kernel
theorem dX0_expectedAfter_167 : decode cX0_expectedAfter 167 = .ok (.iload_n 1, 1) := by decide +kernel
theorem dX0_expectedAfter_168 : decode cX0_expectedAfter 168 = .ok (.invokestatic 35, 3) := by decide +kernel
theorem dX0_expectedAfter_171 : decode cX0_expectedAfter 171 = .ok (.ireturn, 1) := by decide +kernel
theorem dX0_expectedAfter_172 : decode cX0_expectedAfter 172 = .ok (.iload_n 1, 1) := by decide +kernel
theorem dX0_expectedAfter_173 : decode cX0_expectedAfter 173 = .ok (.invokestatic 35, 3) := by decide +kernel
theorem dX0_expectedAfter_176 : decode cX0_expectedAfter 176 = .ok (.ireturn, 1) := by decide +kernel
theorem dX0_expectedAfter_177 : decode cX0_expectedAfter 177 = .ok (.iload_n 1, 1) := by decide +kernel
theorem dX0_expectedAfter_178 : decode cX0_expectedAfter 178 = .ok (.bipush 48, 2) := by decide +kernel
theorem dX0_expectedAfter_180 : decode cX0_expectedAfter 180 = .ok (.if_icmp .ne 6, 3) := by decide +kernel
theorem dX0_expectedAfter_183 : decode cX0_expectedAfter 183 = .ok (.bipush 10, 2) := by decide +kernel
theorem dX0_expectedAfter_185 : decode cX0_expectedAfter 185 = .ok (.ireturn, 1) := by decide +kernel
theorem dX0_expectedAfter_186 : decode cX0_expectedAfter 186 = .ok (.iload_n 1, 1) := by decide +kernel
theorem dX0_expectedAfter_187 : decode cX0_expectedAfter 187 = .ok (.invokestatic 38, 3) := by decide +kernel
theorem dX0_expectedAfter_190 : decode cX0_expectedAfter 190 = .ok (.ifCond .eq 8, 3) := by decide +kernel
theorem dX0_expectedAfter_193 : decode cX0_expectedAfter 193 = .ok (.bipush 9, 2) := by decide +kernel
theorem dX0_expectedAfter_195 : decode cX0_expectedAfter 195 = .ok (.goto 5, 3) := by decide +kernel
theorem dX0_expectedAfter_198 : decode cX0_expectedAfter 198 = .ok (.bipush 11, 2) := by decide +kernel
theorem dX0_expectedAfter_200 : decode cX0_expectedAfter 200 = .ok (.ireturn, 1) := by decide +kernel
theorem dX0_expectedAfter_201 : decode cX0_expectedAfter 201 = .ok (.iload_n 1, 1) := by decide +kernel
theorem dX0_expectedAfter_202 : decode cX0_expectedAfter 202 = .ok (.invokestatic 38, 3) := by decide +kernel
theorem dX0_expectedAfter_205 : decode cX0_expectedAfter 205 = .ok (.ifCond .eq 8, 3) := by decide +kernel
theorem dX0_expectedAfter_208 : decode cX0_expectedAfter 208 = .ok (.bipush 10, 2) := by decide +kernel
theorem dX0_expectedAfter_210 : decode cX0_expectedAfter 210 = .ok (.goto 7, 3) := by decide +kernel
theorem dX0_expectedAfter_213 : decode cX0_expectedAfter 213 = .ok (.iload_n 1, 1) := by decide +kernel
theorem dX0_expectedAfter_214 : decode cX0_expectedAfter 214 = .ok (.invokestatic 41, 3) := by decide +kernel
theorem dX0_expectedAfter_217 : decode cX0_expectedAfter 217 = .ok (.ireturn, 1) := by decide +kernel
theorem dX0_expectedAfter_218 : decode cX0_expectedAfter 218 = .ok (.iload_n 1, 1) := by decide +kernel
theorem dX0_expectedAfter_219 : decode cX0_expectedAfter 219 = .ok (.invokestatic 41, 3) := by decide +kernel
theorem dX0_expectedAfter_222 : decode cX0_expectedAfter 222 = .ok (.ireturn, 1) := by decide +kernel
theorem dX0_expectedAfter_223 : decode cX0_expectedAfter 223 = .ok (.bipush 11, 2) := by decide +kernel
theorem dX0_expectedAfter_225 : decode cX0_expectedAfter 225 = .ok (.ireturn, 1) := by decide +kernel
theorem dX0_afterStar_0 : decode cX0_afterStar 0 = .ok (.iload_n 0, 1) := by decide +kernel
theorem dX0_afterStar_1 : decode cX0_afterStar 1 = .ok (.bipush 42, 2) := by decide +kernel
theorem dX0_afterStar_3 : decode cX0_afterStar 3 = .ok (.if_icmp .ne 8, 3) := by decide +kernel
theorem dX0_afterStar_6 : decode cX0_afterStar 6 = .ok (.bipush 8, 2) := by decide +kernel
theorem dX0_afterStar_8 : decode cX0_afterStar 8 = .ok (.goto 5, 3) := by decide +kernel
theorem dX0_afterStar_11 : decode cX0_afterStar 11 = .ok (.bipush 11, 2) := by decide +kernel
theorem dX0_afterStar_13 : decode cX0_afterStar 13 = .ok (.ireturn, 1) := by decide +kernel
theorem dX0_afterEnd_0 : decode cX0_afterEnd 0 = .ok (.iload_n 0, 1) := by decide +kernel
theorem dX0_afterEnd_1 : decode cX0_afterEnd 1 = .ok (.bipush 59, 2) := by decide +kernel
theorem dX0_afterEnd_3 : decode cX0_afterEnd 3 = .ok (.if_icmp .ne 7, 3) := by decide +kernel
theorem dX0_afterEnd_6 : decode cX0_afterEnd 6 = .ok (.iconst 0, 1) := by decide +kernel
theorem dX0_afterEnd_7 : decode cX0_afterEnd 7 = .ok (.goto 5, 3) := by decide +kernel
theorem dX0_afterEnd_10 : decode cX0_afterEnd 10 = .ok (.bipush 11, 2) := by decide +kernel
theorem dX0_afterEnd_12 : decode cX0_afterEnd 12 = .ok (.ireturn, 1) := by decide +kernel
theorem dX0_isGesture_0 : decode cX0_isGesture 0 = .ok (.iload_n 0, 1) := by decide +kernel
theorem dX0_isGesture_1 : decode cX0_isGesture 1 = .ok (.bipush 119, 2) := by decide +kernel
theorem dX0_isGesture_3 : decode cX0_isGesture 3 = .ok (.if_icmp .eq 9, 3) := by decide +kernel
theorem dX0_isGesture_6 : decode cX0_isGesture 6 = .ok (.iload_n 0, 1) := by decide +kernel
theorem dX0_isGesture_7 : decode cX0_isGesture 7 = .ok (.bipush 110, 2) := by decide +kernel
theorem dX0_isGesture_9 : decode cX0_isGesture 9 = .ok (.if_icmp .ne 7, 3) := by decide +kernel
theorem dX0_isGesture_12 : decode cX0_isGesture 12 = .ok (.iconst 1, 1) := by decide +kernel
theorem dX0_isGesture_13 : decode cX0_isGesture 13 = .ok (.goto 4, 3) := by decide +kernel
theorem dX0_isGesture_16 : decode cX0_isGesture 16 = .ok (.iconst 0, 1) := by decide +kernel
theorem dX0_isGesture_17 : decode cX0_isGesture 17 = .ok (.ireturn, 1) := by decide +kernel
theorem dX0_isDigit_0 : decode cX0_isDigit 0 = .ok (.iload_n 0, 1) := by decide +kernel
theorem dX0_isDigit_1 : decode cX0_isDigit 1 = .ok (.bipush 48, 2) := by decide +kernel
theorem dX0_isDigit_3 : decode cX0_isDigit 3 = .ok (.if_icmp .lt 13, 3) := by decide +kernel
theorem dX0_isDigit_6 : decode cX0_isDigit 6 = .ok (.iload_n 0, 1) := by decide +kernel
theorem dX0_isDigit_7 : decode cX0_isDigit 7 = .ok (.bipush 57, 2) := by decide +kernel
theorem dX0_isDigit_9 : decode cX0_isDigit 9 = .ok (.if_icmp .gt 7, 3) := by decide +kernel
theorem dX0_isDigit_12 : decode cX0_isDigit 12 = .ok (.iconst 1, 1) := by decide +kernel
theorem dX0_isDigit_13 : decode cX0_isDigit 13 = .ok (.goto 4, 3) := by decide +kernel
theorem dX0_isDigit_16 : decode cX0_isDigit 16 = .ok (.iconst 0, 1) := by decide +kernel
theorem dX0_isDigit_17 : decode cX0_isDigit 17 = .ok (.ireturn, 1) := by decide +kernel
theorem dX0_giveHabits_0 : decode cX0_giveHabits 0 = .ok (.iconst 0, 1) := by decide +kernel
theorem dX0_giveHabits_1 : decode cX0_giveHabits 1 = .ok (.istore_n 2, 1) := by decide +kernel
theorem dX0_giveHabits_2 : decode cX0_giveHabits 2 = .ok (.iconst 0, 1) := by decide +kernel
theorem dX0_giveHabits_3 : decode cX0_giveHabits 3 = .ok (.istore_n 3, 1) := by decide +kernel
theorem dX0_giveHabits_4 : decode cX0_giveHabits 4 = .ok (.iconst 0, 1) := by decide +kernel
theorem dX0_giveHabits_5 : decode cX0_giveHabits 5 = .ok (.istore 4, 2) := by decide +kernel
theorem dX0_giveHabits_7 : decode cX0_giveHabits 7 = .ok (.iload 4, 2) := by decide +kernel
theorem dX0_giveHabits_9 : decode cX0_giveHabits 9 = .ok (.aload_n 0, 1) := by decide +kernel
theorem dX0_giveHabits_10 : decode cX0_giveHabits 10 = .ok (.getfield 15, 3) := by decide +kernel
theorem dX0_giveHabits_13 : decode cX0_giveHabits 13 = .ok (.if_icmp .gt 67, 3) := by decide +kernel
theorem dX0_giveHabits_16 : decode cX0_giveHabits 16 = .ok (.iload 4, 2) := by decide +kernel
theorem dX0_giveHabits_18 : decode cX0_giveHabits 18 = .ok (.aload_n 0, 1) := by decide +kernel
theorem dX0_giveHabits_19 : decode cX0_giveHabits 19 = .ok (.getfield 15, 3) := by decide +kernel
theorem dX0_giveHabits_22 : decode cX0_giveHabits 22 = .ok (.if_icmp .ge 17, 3) := by decide +kernel
theorem dX0_giveHabits_25 : decode cX0_giveHabits 25 = .ok (.aload_n 0, 1) := by decide +kernel
theorem dX0_giveHabits_26 : decode cX0_giveHabits 26 = .ok (.iload 4, 2) := by decide +kernel
theorem dX0_giveHabits_28 : decode cX0_giveHabits 28 = .ok (.invokevirtual 23, 3) := by decide +kernel
theorem dX0_giveHabits_31 : decode cX0_giveHabits 31 = .ok (.bipush 59, 2) := by decide +kernel
theorem dX0_giveHabits_33 : decode cX0_giveHabits 33 = .ok (.if_icmp .eq 6, 3) := by decide +kernel
theorem dX0_giveHabits_36 : decode cX0_giveHabits 36 = .ok (.goto 38, 3) := by decide +kernel
theorem dX0_giveHabits_39 : decode cX0_giveHabits 39 = .ok (.aload_n 1, 1) := by decide +kernel
theorem dX0_giveHabits_40 : decode cX0_giveHabits 40 = .ok (.aload_n 0, 1) := by decide +kernel
theorem dX0_giveHabits_41 : decode cX0_giveHabits 41 = .ok (.iload_n 3, 1) := by decide +kernel
theorem dX0_giveHabits_42 : decode cX0_giveHabits 42 = .ok (.invokevirtual 44, 3) := by decide +kernel
theorem dX0_giveHabits_45 : decode cX0_giveHabits 45 = .ok (.invokevirtual 47, 3) := by decide +kernel
theorem dX0_giveHabits_48 : decode cX0_giveHabits 48 = .ok (.astore 5, 2) := by decide +kernel
theorem dX0_giveHabits_50 : decode cX0_giveHabits 50 = .ok (.aload 5, 2) := by decide +kernel
theorem dX0_giveHabits_52 : decode cX0_giveHabits 52 = .ok (.ifnonnull 5, 3) := by decide +kernel
theorem dX0_giveHabits_55 : decode cX0_giveHabits 55 = .ok (.iload_n 2, 1) := by decide +kernel
theorem dX0_giveHabits_56 : decode cX0_giveHabits 56 = .ok (.ireturn, 1) := by decide +kernel
theorem dX0_giveHabits_57 : decode cX0_giveHabits 57 = .ok (.aload_n 0, 1) := by decide +kernel
theorem dX0_giveHabits_58 : decode cX0_giveHabits 58 = .ok (.aload 5, 2) := by decide +kernel
theorem dX0_giveHabits_60 : decode cX0_giveHabits 60 = .ok (.iload_n 3, 1) := by decide +kernel
theorem dX0_giveHabits_61 : decode cX0_giveHabits 61 = .ok (.iload 4, 2) := by decide +kernel
theorem dX0_giveHabits_63 : decode cX0_giveHabits 63 = .ok (.invokevirtual 53, 3) := by decide +kernel
theorem dX0_giveHabits_66 : decode cX0_giveHabits 66 = .ok (.iinc 2 1, 3) := by decide +kernel
theorem dX0_giveHabits_69 : decode cX0_giveHabits 69 = .ok (.iload 4, 2) := by decide +kernel
theorem dX0_giveHabits_71 : decode cX0_giveHabits 71 = .ok (.iconst 1, 1) := by decide +kernel
theorem dX0_giveHabits_72 : decode cX0_giveHabits 72 = .ok (.iadd, 1) := by decide +kernel
theorem dX0_giveHabits_73 : decode cX0_giveHabits 73 = .ok (.istore_n 3, 1) := by decide +kernel
theorem dX0_giveHabits_74 : decode cX0_giveHabits 74 = .ok (.iinc 4 1, 3) := by decide +kernel
theorem dX0_giveHabits_77 : decode cX0_giveHabits 77 = .ok (.goto (-70), 3) := by decide +kernel
theorem dX0_giveHabits_80 : decode cX0_giveHabits 80 = .ok (.iload_n 2, 1) := by decide +kernel
theorem dX0_giveHabits_81 : decode cX0_giveHabits 81 = .ok (.ireturn, 1) := by decide +kernel
theorem dX0_giveHabit_0 : decode cX0_giveHabit 0 = .ok (.iconst 1, 1) := by decide +kernel
theorem dX0_giveHabit_1 : decode cX0_giveHabit 1 = .ok (.istore 4, 2) := by decide +kernel
theorem dX0_giveHabit_3 : decode cX0_giveHabit 3 = .ok (.iconst 0, 1) := by decide +kernel
theorem dX0_giveHabit_4 : decode cX0_giveHabit 4 = .ok (.istore 5, 2) := by decide +kernel
theorem dX0_giveHabit_6 : decode cX0_giveHabit 6 = .ok (.iload_n 2, 1) := by decide +kernel
theorem dX0_giveHabit_7 : decode cX0_giveHabit 7 = .ok (.iconst 4, 1) := by decide +kernel
theorem dX0_giveHabit_8 : decode cX0_giveHabit 8 = .ok (.iadd, 1) := by decide +kernel
theorem dX0_giveHabit_9 : decode cX0_giveHabit 9 = .ok (.istore 6, 2) := by decide +kernel
theorem dX0_giveHabit_11 : decode cX0_giveHabit 11 = .ok (.iload 6, 2) := by decide +kernel
theorem dX0_giveHabit_13 : decode cX0_giveHabit 13 = .ok (.iload_n 3, 1) := by decide +kernel
theorem dX0_giveHabit_14 : decode cX0_giveHabit 14 = .ok (.if_icmp .ge 69, 3) := by decide +kernel
theorem dX0_giveHabit_17 : decode cX0_giveHabit 17 = .ok (.aload_n 0, 1) := by decide +kernel
theorem dX0_giveHabit_18 : decode cX0_giveHabit 18 = .ok (.iload 6, 2) := by decide +kernel
theorem dX0_giveHabit_20 : decode cX0_giveHabit 20 = .ok (.invokevirtual 23, 3) := by decide +kernel
theorem dX0_giveHabit_23 : decode cX0_giveHabit 23 = .ok (.istore 7, 2) := by decide +kernel
theorem dX0_giveHabit_25 : decode cX0_giveHabit 25 = .ok (.iload 7, 2) := by decide +kernel
theorem dX0_giveHabit_27 : decode cX0_giveHabit 27 = .ok (.invokestatic 31, 3) := by decide +kernel
theorem dX0_giveHabit_30 : decode cX0_giveHabit 30 = .ok (.ifCond .eq 25, 3) := by decide +kernel
theorem dX0_giveHabit_33 : decode cX0_giveHabit 33 = .ok (.iconst 2, 1) := by decide +kernel
theorem dX0_giveHabit_34 : decode cX0_giveHabit 34 = .ok (.iload 4, 2) := by decide +kernel
theorem dX0_giveHabit_36 : decode cX0_giveHabit 36 = .ok (.imul, 1) := by decide +kernel
theorem dX0_giveHabit_37 : decode cX0_giveHabit 37 = .ok (.iload 7, 2) := by decide +kernel
theorem dX0_giveHabit_39 : decode cX0_giveHabit 39 = .ok (.bipush 110, 2) := by decide +kernel
theorem dX0_giveHabit_41 : decode cX0_giveHabit 41 = .ok (.if_icmp .ne 7, 3) := by decide +kernel
theorem dX0_giveHabit_44 : decode cX0_giveHabit 44 = .ok (.iconst 1, 1) := by decide +kernel
theorem dX0_giveHabit_45 : decode cX0_giveHabit 45 = .ok (.goto 4, 3) := by decide +kernel
theorem dX0_giveHabit_48 : decode cX0_giveHabit 48 = .ok (.iconst 0, 1) := by decide +kernel
theorem dX0_giveHabit_49 : decode cX0_giveHabit 49 = .ok (.iadd, 1) := by decide +kernel
theorem dX0_giveHabit_50 : decode cX0_giveHabit 50 = .ok (.istore 4, 2) := by decide +kernel
theorem dX0_giveHabit_52 : decode cX0_giveHabit 52 = .ok (.goto 25, 3) := by decide +kernel
theorem dX0_giveHabit_55 : decode cX0_giveHabit 55 = .ok (.iload 7, 2) := by decide +kernel
theorem dX0_giveHabit_57 : decode cX0_giveHabit 57 = .ok (.invokestatic 38, 3) := by decide +kernel
theorem dX0_giveHabit_60 : decode cX0_giveHabit 60 = .ok (.ifCond .eq 17, 3) := by decide +kernel
theorem dX0_giveHabit_63 : decode cX0_giveHabit 63 = .ok (.bipush 10, 2) := by decide +kernel
theorem dX0_giveHabit_65 : decode cX0_giveHabit 65 = .ok (.iload 5, 2) := by decide +kernel
theorem dX0_giveHabit_67 : decode cX0_giveHabit 67 = .ok (.imul, 1) := by decide +kernel
theorem dX0_giveHabit_68 : decode cX0_giveHabit 68 = .ok (.aload_n 0, 1) := by decide +kernel
theorem dX0_giveHabit_69 : decode cX0_giveHabit 69 = .ok (.iload 6, 2) := by decide +kernel
theorem dX0_giveHabit_71 : decode cX0_giveHabit 71 = .ok (.invokevirtual 44, 3) := by decide +kernel
theorem dX0_giveHabit_74 : decode cX0_giveHabit 74 = .ok (.iadd, 1) := by decide +kernel
theorem dX0_giveHabit_75 : decode cX0_giveHabit 75 = .ok (.istore 5, 2) := by decide +kernel
theorem dX0_giveHabit_77 : decode cX0_giveHabit 77 = .ok (.iinc 6 1, 3) := by decide +kernel
theorem dX0_giveHabit_80 : decode cX0_giveHabit 80 = .ok (.goto (-69), 3) := by decide +kernel
theorem dX0_giveHabit_83 : decode cX0_giveHabit 83 = .ok (.aload_n 1, 1) := by decide +kernel
theorem dX0_giveHabit_84 : decode cX0_giveHabit 84 = .ok (.aload_n 0, 1) := by decide +kernel
theorem dX0_giveHabit_85 : decode cX0_giveHabit 85 = .ok (.iload_n 2, 1) := by decide +kernel
theorem dX0_giveHabit_86 : decode cX0_giveHabit 86 = .ok (.iconst 2, 1) := by decide +kernel
theorem dX0_giveHabit_87 : decode cX0_giveHabit 87 = .ok (.iadd, 1) := by decide +kernel
theorem dX0_giveHabit_88 : decode cX0_giveHabit 88 = .ok (.invokevirtual 44, 3) := by decide +kernel
theorem dX0_giveHabit_91 : decode cX0_giveHabit 91 = .ok (.iload 4, 2) := by decide +kernel
theorem dX0_giveHabit_93 : decode cX0_giveHabit 93 = .ok (.invokestatic 57, 3) := by decide +kernel
theorem dX0_giveHabit_96 : decode cX0_giveHabit 96 = .ok (.iload 5, 2) := by decide +kernel
theorem dX0_giveHabit_98 : decode cX0_giveHabit 98 = .ok (.invokevirtual 60, 3) := by decide +kernel
theorem dX0_giveHabit_101 : decode cX0_giveHabit 101 = .ok (.return_, 1) := by decide +kernel
theorem dX1_init_0 : decode cX1_init 0 = .ok (.aload_n 0, 1) := by decide +kernel
theorem dX1_init_1 : decode cX1_init 1 = .ok (.invokespecial 3, 3) := by decide +kernel
theorem dX1_init_4 : decode cX1_init 4 = .ok (.aload_n 0, 1) := by decide +kernel
theorem dX1_init_5 : decode cX1_init 5 = .ok (.bipush 6, 2) := by decide +kernel
theorem dX1_init_7 : decode cX1_init 7 = .ok (.anewarray 9, 3) := by decide +kernel
theorem dX1_init_10 : decode cX1_init 10 = .ok (.putfield 11, 3) := by decide +kernel
theorem dX1_init_13 : decode cX1_init 13 = .ok (.iconst 0, 1) := by decide +kernel
theorem dX1_init_14 : decode cX1_init 14 = .ok (.istore_n 1, 1) := by decide +kernel
theorem dX1_init_15 : decode cX1_init 15 = .ok (.iload_n 1, 1) := by decide +kernel
theorem dX1_init_16 : decode cX1_init 16 = .ok (.bipush 6, 2) := by decide +kernel
theorem dX1_init_18 : decode cX1_init 18 = .ok (.if_icmp .ge 22, 3) := by decide +kernel
theorem dX1_init_21 : decode cX1_init 21 = .ok (.aload_n 0, 1) := by decide +kernel
theorem dX1_init_22 : decode cX1_init 22 = .ok (.getfield 11, 3) := by decide +kernel
theorem dX1_init_25 : decode cX1_init 25 = .ok (.iload_n 1, 1) := by decide +kernel
theorem dX1_init_26 : decode cX1_init 26 = .ok (.new 9, 3) := by decide +kernel
theorem dX1_init_29 : decode cX1_init 29 = .ok (.dup, 1) := by decide +kernel
theorem dX1_init_30 : decode cX1_init 30 = .ok (.invokespecial 17, 3) := by decide +kernel
theorem dX1_init_33 : decode cX1_init 33 = .ok (.aastore, 1) := by decide +kernel
theorem dX1_init_34 : decode cX1_init 34 = .ok (.iinc 1 1, 3) := by decide +kernel
theorem dX1_init_37 : decode cX1_init 37 = .ok (.goto (-22), 3) := by decide +kernel
theorem dX1_init_40 : decode cX1_init 40 = .ok (.return_, 1) := by decide +kernel
theorem dX1_keep_0 : decode cX1_keep 0 = .ok (.aload_n 0, 1) := by decide +kernel
theorem dX1_keep_1 : decode cX1_keep 1 = .ok (.getfield 18, 3) := by decide +kernel
theorem dX1_keep_4 : decode cX1_keep 4 = .ok (.bipush 6, 2) := by decide +kernel
theorem dX1_keep_6 : decode cX1_keep 6 = .ok (.invokestatic 22, 3) := by decide +kernel
theorem dX1_keep_9 : decode cX1_keep 9 = .ok (.ifCond .ne 4, 3) := by decide +kernel
theorem dX1_keep_12 : decode cX1_keep 12 = .ok (.return_, 1) := by decide +kernel
theorem dX1_keep_13 : decode cX1_keep 13 = .ok (.aload_n 0, 1) := by decide +kernel
theorem dX1_keep_14 : decode cX1_keep 14 = .ok (.getfield 11, 3) := by decide +kernel
theorem dX1_keep_17 : decode cX1_keep 17 = .ok (.aload_n 0, 1) := by decide +kernel
theorem dX1_keep_18 : decode cX1_keep 18 = .ok (.getfield 18, 3) := by decide +kernel
theorem dX1_keep_21 : decode cX1_keep 21 = .ok (.aaload, 1) := by decide +kernel
theorem dX1_keep_22 : decode cX1_keep 22 = .ok (.aload_n 1, 1) := by decide +kernel
theorem dX1_keep_23 : decode cX1_keep 23 = .ok (.invokevirtual 26, 3) := by decide +kernel
theorem dX1_keep_26 : decode cX1_keep 26 = .ok (.aload_n 0, 1) := by decide +kernel
theorem dX1_keep_27 : decode cX1_keep 27 = .ok (.aload_n 0, 1) := by decide +kernel
theorem dX1_keep_28 : decode cX1_keep 28 = .ok (.getfield 18, 3) := by decide +kernel
theorem dX1_keep_31 : decode cX1_keep 31 = .ok (.iconst 1, 1) := by decide +kernel
theorem dX1_keep_32 : decode cX1_keep 32 = .ok (.iadd, 1) := by decide +kernel
theorem dX1_keep_33 : decode cX1_keep 33 = .ok (.bipush 6, 2) := by decide +kernel
theorem dX1_keep_35 : decode cX1_keep 35 = .ok (.irem, 1) := by decide +kernel
theorem dX1_keep_36 : decode cX1_keep 36 = .ok (.putfield 18, 3) := by decide +kernel
theorem dX1_keep_39 : decode cX1_keep 39 = .ok (.aload_n 0, 1) := by decide +kernel
theorem dX1_keep_40 : decode cX1_keep 40 = .ok (.bipush 6, 2) := by decide +kernel
theorem dX1_keep_42 : decode cX1_keep 42 = .ok (.aload_n 0, 1) := by decide +kernel
theorem dX1_keep_43 : decode cX1_keep 43 = .ok (.getfield 30, 3) := by decide +kernel
theorem dX1_keep_46 : decode cX1_keep 46 = .ok (.iconst 1, 1) := by decide +kernel
theorem dX1_keep_47 : decode cX1_keep 47 = .ok (.iadd, 1) := by decide +kernel
theorem dX1_keep_48 : decode cX1_keep 48 = .ok (.invokestatic 33, 3) := by decide +kernel
theorem dX1_keep_51 : decode cX1_keep 51 = .ok (.putfield 30, 3) := by decide +kernel
theorem dX1_keep_54 : decode cX1_keep 54 = .ok (.return_, 1) := by decide +kernel
theorem dX1_restore_0 : decode cX1_restore 0 = .ok (.aload_n 0, 1) := by decide +kernel
theorem dX1_restore_1 : decode cX1_restore 1 = .ok (.getfield 18, 3) := by decide +kernel
theorem dX1_restore_4 : decode cX1_restore 4 = .ok (.bipush 6, 2) := by decide +kernel
theorem dX1_restore_6 : decode cX1_restore 6 = .ok (.iadd, 1) := by decide +kernel
theorem dX1_restore_7 : decode cX1_restore 7 = .ok (.iconst 1, 1) := by decide +kernel
theorem dX1_restore_8 : decode cX1_restore 8 = .ok (.isub, 1) := by decide +kernel
theorem dX1_restore_9 : decode cX1_restore 9 = .ok (.bipush 6, 2) := by decide +kernel
theorem dX1_restore_11 : decode cX1_restore 11 = .ok (.irem, 1) := by decide +kernel
theorem dX1_restore_12 : decode cX1_restore 12 = .ok (.istore_n 2, 1) := by decide +kernel
theorem dX1_restore_13 : decode cX1_restore 13 = .ok (.aload_n 0, 1) := by decide +kernel
theorem dX1_restore_14 : decode cX1_restore 14 = .ok (.getfield 30, 3) := by decide +kernel
theorem dX1_restore_17 : decode cX1_restore 17 = .ok (.iconst 1, 1) := by decide +kernel
theorem dX1_restore_18 : decode cX1_restore 18 = .ok (.if_icmp .lt 12, 3) := by decide +kernel
theorem dX1_restore_21 : decode cX1_restore 21 = .ok (.iload_n 2, 1) := by decide +kernel
theorem dX1_restore_22 : decode cX1_restore 22 = .ok (.bipush 6, 2) := by decide +kernel
theorem dX1_restore_24 : decode cX1_restore 24 = .ok (.invokestatic 22, 3) := by decide +kernel
theorem dX1_restore_27 : decode cX1_restore 27 = .ok (.ifCond .ne 5, 3) := by decide +kernel
theorem dX1_restore_30 : decode cX1_restore 30 = .ok (.iconst 0, 1) := by decide +kernel
theorem dX1_restore_31 : decode cX1_restore 31 = .ok (.ireturn, 1) := by decide +kernel
theorem dX1_restore_32 : decode cX1_restore 32 = .ok (.aload_n 1, 1) := by decide +kernel
theorem dX1_restore_33 : decode cX1_restore 33 = .ok (.aload_n 0, 1) := by decide +kernel
theorem dX1_restore_34 : decode cX1_restore 34 = .ok (.getfield 11, 3) := by decide +kernel
theorem dX1_restore_37 : decode cX1_restore 37 = .ok (.iload_n 2, 1) := by decide +kernel
theorem dX1_restore_38 : decode cX1_restore 38 = .ok (.aaload, 1) := by decide +kernel
theorem dX1_restore_39 : decode cX1_restore 39 = .ok (.invokevirtual 26, 3) := by decide +kernel
theorem dX1_restore_42 : decode cX1_restore 42 = .ok (.aload_n 0, 1) := by decide +kernel
theorem dX1_restore_43 : decode cX1_restore 43 = .ok (.iload_n 2, 1) := by decide +kernel
theorem dX1_restore_44 : decode cX1_restore 44 = .ok (.putfield 18, 3) := by decide +kernel
theorem dX1_restore_47 : decode cX1_restore 47 = .ok (.aload_n 0, 1) := by decide +kernel
theorem dX1_restore_48 : decode cX1_restore 48 = .ok (.dup, 1) := by decide +kernel
theorem dX1_restore_49 : decode cX1_restore 49 = .ok (.getfield 30, 3) := by decide +kernel
theorem dX1_restore_52 : decode cX1_restore 52 = .ok (.iconst 1, 1) := by decide +kernel
theorem dX1_restore_53 : decode cX1_restore 53 = .ok (.isub, 1) := by decide +kernel
theorem dX1_restore_54 : decode cX1_restore 54 = .ok (.putfield 30, 3) := by decide +kernel
theorem dX1_restore_57 : decode cX1_restore 57 = .ok (.iconst 1, 1) := by decide +kernel
theorem dX1_restore_58 : decode cX1_restore 58 = .ok (.ireturn, 1) := by decide +kernel
theorem dX2_init_0 : decode cX2_init 0 = .ok (.aload_n 0, 1) := by decide +kernel
theorem dX2_init_1 : decode cX2_init 1 = .ok (.invokespecial 3, 3) := by decide +kernel
theorem dX2_init_4 : decode cX2_init 4 = .ok (.aload_n 0, 1) := by decide +kernel
theorem dX2_init_5 : decode cX2_init 5 = .ok (.bipush 84, 2) := by decide +kernel
theorem dX2_init_7 : decode cX2_init 7 = .ok (.newarray .int, 2) := by decide +kernel
theorem dX2_init_9 : decode cX2_init 9 = .ok (.putfield 9, 3) := by decide +kernel
theorem dX2_init_12 : decode cX2_init 12 = .ok (.return_, 1) := by decide +kernel
theorem dX2_copyFrom_0 : decode cX2_copyFrom 0 = .ok (.aload_n 1, 1) := by decide +kernel
theorem dX2_copyFrom_1 : decode cX2_copyFrom 1 = .ok (.getfield 9, 3) := by decide +kernel
theorem dX2_copyFrom_4 : decode cX2_copyFrom 4 = .ok (.iconst 0, 1) := by decide +kernel
theorem dX2_copyFrom_5 : decode cX2_copyFrom 5 = .ok (.aload_n 0, 1) := by decide +kernel
theorem dX2_copyFrom_6 : decode cX2_copyFrom 6 = .ok (.getfield 9, 3) := by decide +kernel
theorem dX2_copyFrom_9 : decode cX2_copyFrom 9 = .ok (.iconst 0, 1) := by decide +kernel
theorem dX2_copyFrom_10 : decode cX2_copyFrom 10 = .ok (.bipush 84, 2) := by decide +kernel
theorem dX2_copyFrom_12 : decode cX2_copyFrom 12 = .ok (.invokestatic 15, 3) := by decide +kernel
theorem dX2_copyFrom_15 : decode cX2_copyFrom 15 = .ok (.aload_n 0, 1) := by decide +kernel
theorem dX2_copyFrom_16 : decode cX2_copyFrom 16 = .ok (.aload_n 1, 1) := by decide +kernel
theorem dX2_copyFrom_17 : decode cX2_copyFrom 17 = .ok (.getfield 21, 3) := by decide +kernel
theorem dX2_copyFrom_20 : decode cX2_copyFrom 20 = .ok (.putfield 21, 3) := by decide +kernel
theorem dX2_copyFrom_23 : decode cX2_copyFrom 23 = .ok (.aload_n 0, 1) := by decide +kernel
theorem dX2_copyFrom_24 : decode cX2_copyFrom 24 = .ok (.aload_n 1, 1) := by decide +kernel
theorem dX2_copyFrom_25 : decode cX2_copyFrom 25 = .ok (.getfield 25, 3) := by decide +kernel
theorem dX2_copyFrom_28 : decode cX2_copyFrom 28 = .ok (.putfield 25, 3) := by decide +kernel
theorem dX2_copyFrom_31 : decode cX2_copyFrom 31 = .ok (.aload_n 0, 1) := by decide +kernel
theorem dX2_copyFrom_32 : decode cX2_copyFrom 32 = .ok (.aload_n 1, 1) := by decide +kernel
theorem dX2_copyFrom_33 : decode cX2_copyFrom 33 = .ok (.getfield 29, 3) := by decide +kernel
theorem dX2_copyFrom_36 : decode cX2_copyFrom 36 = .ok (.putfield 29, 3) := by decide +kernel
theorem dX2_copyFrom_39 : decode cX2_copyFrom 39 = .ok (.return_, 1) := by decide +kernel
theorem dX2_arrive_0 : decode cX2_arrive 0 = .ok (.aload_n 0, 1) := by decide +kernel
theorem dX2_arrive_1 : decode cX2_arrive 1 = .ok (.iconst 1, 1) := by decide +kernel
theorem dX2_arrive_2 : decode cX2_arrive 2 = .ok (.putfield 21, 3) := by decide +kernel
theorem dX2_arrive_5 : decode cX2_arrive 5 = .ok (.aload_n 0, 1) := by decide +kernel
theorem dX2_arrive_6 : decode cX2_arrive 6 = .ok (.aconst_null, 1) := by decide +kernel
theorem dX2_arrive_7 : decode cX2_arrive 7 = .ok (.iconst 0, 1) := by decide +kernel
theorem dX2_arrive_8 : decode cX2_arrive 8 = .ok (.invokevirtual 32, 3) := by decide +kernel
theorem dX2_arrive_11 : decode cX2_arrive 11 = .ok (.return_, 1) := by decide +kernel
theorem dX2_leave_0 : decode cX2_leave 0 = .ok (.aload_n 0, 1) := by decide +kernel
theorem dX2_leave_1 : decode cX2_leave 1 = .ok (.iconst 0, 1) := by decide +kernel
theorem dX2_leave_2 : decode cX2_leave 2 = .ok (.putfield 21, 3) := by decide +kernel
theorem dX2_leave_5 : decode cX2_leave 5 = .ok (.return_, 1) := by decide +kernel
theorem dX2_beginLife_0 : decode cX2_beginLife 0 = .ok (.aload_n 0, 1) := by decide +kernel
theorem dX2_beginLife_1 : decode cX2_beginLife 1 = .ok (.iconst 0, 1) := by decide +kernel
theorem dX2_beginLife_2 : decode cX2_beginLife 2 = .ok (.putfield 25, 3) := by decide +kernel
theorem dX2_beginLife_5 : decode cX2_beginLife 5 = .ok (.aload_n 0, 1) := by decide +kernel
theorem dX2_beginLife_6 : decode cX2_beginLife 6 = .ok (.iconst 0, 1) := by decide +kernel
theorem dX2_beginLife_7 : decode cX2_beginLife 7 = .ok (.putfield 29, 3) := by decide +kernel
theorem dX2_beginLife_10 : decode cX2_beginLife 10 = .ok (.iconst 0, 1) := by decide +kernel
theorem dX2_beginLife_11 : decode cX2_beginLife 11 = .ok (.istore_n 3, 1) := by decide +kernel
theorem dX2_beginLife_12 : decode cX2_beginLife 12 = .ok (.iload_n 3, 1) := by decide +kernel
theorem dX2_beginLife_13 : decode cX2_beginLife 13 = .ok (.bipush 6, 2) := by decide +kernel
theorem dX2_beginLife_15 : decode cX2_beginLife 15 = .ok (.if_icmp .ge 56, 3) := by decide +kernel
theorem dX2_beginLife_18 : decode cX2_beginLife 18 = .ok (.iconst 0, 1) := by decide +kernel
theorem dX2_beginLife_19 : decode cX2_beginLife 19 = .ok (.istore 4, 2) := by decide +kernel
theorem dX2_beginLife_21 : decode cX2_beginLife 21 = .ok (.iload 4, 2) := by decide +kernel
theorem dX2_beginLife_23 : decode cX2_beginLife 23 = .ok (.bipush 14, 2) := by decide +kernel
theorem dX2_beginLife_25 : decode cX2_beginLife 25 = .ok (.if_icmp .ge 40, 3) := by decide +kernel
theorem dX2_beginLife_28 : decode cX2_beginLife 28 = .ok (.aload_n 1, 1) := by decide +kernel
theorem dX2_beginLife_29 : decode cX2_beginLife 29 = .ok (.ifnonnull 7, 3) := by decide +kernel
theorem dX2_beginLife_32 : decode cX2_beginLife 32 = .ok (.iconst 0, 1) := by decide +kernel
theorem dX2_beginLife_33 : decode cX2_beginLife 33 = .ok (.goto 15, 3) := by decide +kernel
theorem dX2_beginLife_36 : decode cX2_beginLife 36 = .ok (.aload_n 1, 1) := by decide +kernel
theorem dX2_beginLife_37 : decode cX2_beginLife 37 = .ok (.iload_n 3, 1) := by decide +kernel
theorem dX2_beginLife_38 : decode cX2_beginLife 38 = .ok (.iload 4, 2) := by decide +kernel
theorem dX2_beginLife_40 : decode cX2_beginLife 40 = .ok (.invokevirtual 36, 3) := by decide +kernel
theorem dX2_beginLife_43 : decode cX2_beginLife 43 = .ok (.iload_n 2, 1) := by decide +kernel
theorem dX2_beginLife_44 : decode cX2_beginLife 44 = .ok (.imul, 1) := by decide +kernel
theorem dX2_beginLife_45 : decode cX2_beginLife 45 = .ok (.bipush 100, 2) := by decide +kernel
theorem dX2_beginLife_47 : decode cX2_beginLife 47 = .ok (.idiv, 1) := by decide +kernel
theorem dX2_beginLife_48 : decode cX2_beginLife 48 = .ok (.istore 5, 2) := by decide +kernel
theorem dX2_beginLife_50 : decode cX2_beginLife 50 = .ok (.aload_n 0, 1) := by decide +kernel
theorem dX2_beginLife_51 : decode cX2_beginLife 51 = .ok (.iload_n 3, 1) := by decide +kernel
theorem dX2_beginLife_52 : decode cX2_beginLife 52 = .ok (.iload 4, 2) := by decide +kernel
theorem dX2_beginLife_54 : decode cX2_beginLife 54 = .ok (.iload 5, 2) := by decide +kernel
theorem dX2_beginLife_56 : decode cX2_beginLife 56 = .ok (.invokevirtual 40, 3) := by decide +kernel
theorem dX2_beginLife_59 : decode cX2_beginLife 59 = .ok (.iinc 4 1, 3) := by decide +kernel
theorem dX2_beginLife_62 : decode cX2_beginLife 62 = .ok (.goto (-41), 3) := by decide +kernel
theorem dX2_beginLife_65 : decode cX2_beginLife 65 = .ok (.iinc 3 1, 3) := by decide +kernel
theorem dX2_beginLife_68 : decode cX2_beginLife 68 = .ok (.goto (-56), 3) := by decide +kernel
theorem dX2_beginLife_71 : decode cX2_beginLife 71 = .ok (.return_, 1) := by decide +kernel
theorem dX2_weightOf_0 : decode cX2_weightOf 0 = .ok (.iload_n 1, 1) := by decide +kernel
theorem dX2_weightOf_1 : decode cX2_weightOf 1 = .ok (.invokestatic 44, 3) := by decide +kernel
theorem dX2_weightOf_4 : decode cX2_weightOf 4 = .ok (.ifCond .eq 24, 3) := by decide +kernel
theorem dX2_weightOf_7 : decode cX2_weightOf 7 = .ok (.iload_n 2, 1) := by decide +kernel
theorem dX2_weightOf_8 : decode cX2_weightOf 8 = .ok (.invokestatic 48, 3) := by decide +kernel
theorem dX2_weightOf_11 : decode cX2_weightOf 11 = .ok (.ifCond .eq 17, 3) := by decide +kernel
theorem dX2_weightOf_14 : decode cX2_weightOf 14 = .ok (.aload_n 0, 1) := by decide +kernel
theorem dX2_weightOf_15 : decode cX2_weightOf 15 = .ok (.getfield 9, 3) := by decide +kernel
theorem dX2_weightOf_18 : decode cX2_weightOf 18 = .ok (.iload_n 1, 1) := by decide +kernel
theorem dX2_weightOf_19 : decode cX2_weightOf 19 = .ok (.bipush 14, 2) := by decide +kernel
theorem dX2_weightOf_21 : decode cX2_weightOf 21 = .ok (.imul, 1) := by decide +kernel
theorem dX2_weightOf_22 : decode cX2_weightOf 22 = .ok (.iload_n 2, 1) := by decide +kernel
theorem dX2_weightOf_23 : decode cX2_weightOf 23 = .ok (.iadd, 1) := by decide +kernel
theorem dX2_weightOf_24 : decode cX2_weightOf 24 = .ok (.iaload, 1) := by decide +kernel
theorem dX2_weightOf_25 : decode cX2_weightOf 25 = .ok (.goto 4, 3) := by decide +kernel
theorem dX2_weightOf_28 : decode cX2_weightOf 28 = .ok (.iconst 0, 1) := by decide +kernel
theorem dX2_weightOf_29 : decode cX2_weightOf 29 = .ok (.ireturn, 1) := by decide +kernel
theorem dX2_putWeight_0 : decode cX2_putWeight 0 = .ok (.iload_n 1, 1) := by decide +kernel
theorem dX2_putWeight_1 : decode cX2_putWeight 1 = .ok (.invokestatic 44, 3) := by decide +kernel
theorem dX2_putWeight_4 : decode cX2_putWeight 4 = .ok (.ifCond .eq 31, 3) := by decide +kernel
theorem dX2_putWeight_7 : decode cX2_putWeight 7 = .ok (.iload_n 2, 1) := by decide +kernel
theorem dX2_putWeight_8 : decode cX2_putWeight 8 = .ok (.invokestatic 48, 3) := by decide +kernel
theorem dX2_putWeight_11 : decode cX2_putWeight 11 = .ok (.ifCond .eq 24, 3) := by decide +kernel
theorem dX2_putWeight_14 : decode cX2_putWeight 14 = .ok (.aload_n 0, 1) := by decide +kernel
theorem dX2_putWeight_15 : decode cX2_putWeight 15 = .ok (.getfield 9, 3) := by decide +kernel
theorem dX2_putWeight_18 : decode cX2_putWeight 18 = .ok (.iload_n 1, 1) := by decide +kernel
theorem dX2_putWeight_19 : decode cX2_putWeight 19 = .ok (.bipush 14, 2) := by decide +kernel
theorem dX2_putWeight_21 : decode cX2_putWeight 21 = .ok (.imul, 1) := by decide +kernel
theorem dX2_putWeight_22 : decode cX2_putWeight 22 = .ok (.iload_n 2, 1) := by decide +kernel
theorem dX2_putWeight_23 : decode cX2_putWeight 23 = .ok (.iadd, 1) := by decide +kernel
theorem dX2_putWeight_24 : decode cX2_putWeight 24 = .ok (.iconst 0, 1) := by decide +kernel
theorem dX2_putWeight_25 : decode cX2_putWeight 25 = .ok (.bipush 99, 2) := by decide +kernel
theorem dX2_putWeight_27 : decode cX2_putWeight 27 = .ok (.iload_n 3, 1) := by decide +kernel
theorem dX2_putWeight_28 : decode cX2_putWeight 28 = .ok (.invokestatic 51, 3) := by decide +kernel
theorem dX2_putWeight_31 : decode cX2_putWeight 31 = .ok (.invokestatic 56, 3) := by decide +kernel
theorem dX2_putWeight_34 : decode cX2_putWeight 34 = .ok (.iastore, 1) := by decide +kernel
theorem dX2_putWeight_35 : decode cX2_putWeight 35 = .ok (.return_, 1) := by decide +kernel
theorem dX2_changeWeight_0 : decode cX2_changeWeight 0 = .ok (.aload_n 0, 1) := by decide +kernel
theorem dX2_changeWeight_1 : decode cX2_changeWeight 1 = .ok (.iload_n 1, 1) := by decide +kernel
theorem dX2_changeWeight_2 : decode cX2_changeWeight 2 = .ok (.iload_n 2, 1) := by decide +kernel
theorem dX2_changeWeight_3 : decode cX2_changeWeight 3 = .ok (.aload_n 0, 1) := by decide +kernel
theorem dX2_changeWeight_4 : decode cX2_changeWeight 4 = .ok (.iload_n 1, 1) := by decide +kernel
theorem dX2_changeWeight_5 : decode cX2_changeWeight 5 = .ok (.iload_n 2, 1) := by decide +kernel
theorem dX2_changeWeight_6 : decode cX2_changeWeight 6 = .ok (.invokevirtual 36, 3) := by decide +kernel
theorem dX2_changeWeight_9 : decode cX2_changeWeight 9 = .ok (.iload_n 3, 1) := by decide +kernel
theorem dX2_changeWeight_10 : decode cX2_changeWeight 10 = .ok (.iadd, 1) := by decide +kernel
theorem dX2_changeWeight_11 : decode cX2_changeWeight 11 = .ok (.invokevirtual 40, 3) := by decide +kernel
theorem dX2_changeWeight_14 : decode cX2_changeWeight 14 = .ok (.return_, 1) := by decide +kernel
theorem dX2_wordFor_0 : decode cX2_wordFor 0 = .ok (.bipush (-6), 2) := by decide +kernel
theorem dX2_wordFor_2 : decode cX2_wordFor 2 = .ok (.istore_n 2, 1) := by decide +kernel
theorem dX2_wordFor_3 : decode cX2_wordFor 3 = .ok (.iconst 0, 1) := by decide +kernel
theorem dX2_wordFor_4 : decode cX2_wordFor 4 = .ok (.istore_n 3, 1) := by decide +kernel
theorem dX2_wordFor_5 : decode cX2_wordFor 5 = .ok (.iconst 0, 1) := by decide +kernel
theorem dX2_wordFor_6 : decode cX2_wordFor 6 = .ok (.istore 4, 2) := by decide +kernel
theorem dX2_wordFor_8 : decode cX2_wordFor 8 = .ok (.iload 4, 2) := by decide +kernel
theorem dX2_wordFor_10 : decode cX2_wordFor 10 = .ok (.bipush 14, 2) := by decide +kernel
theorem dX2_wordFor_12 : decode cX2_wordFor 12 = .ok (.if_icmp .ge 30, 3) := by decide +kernel
theorem dX2_wordFor_15 : decode cX2_wordFor 15 = .ok (.aload_n 0, 1) := by decide +kernel
theorem dX2_wordFor_16 : decode cX2_wordFor 16 = .ok (.iload_n 1, 1) := by decide +kernel
theorem dX2_wordFor_17 : decode cX2_wordFor 17 = .ok (.iload 4, 2) := by decide +kernel
theorem dX2_wordFor_19 : decode cX2_wordFor 19 = .ok (.invokevirtual 36, 3) := by decide +kernel
theorem dX2_wordFor_22 : decode cX2_wordFor 22 = .ok (.istore 5, 2) := by decide +kernel
theorem dX2_wordFor_24 : decode cX2_wordFor 24 = .ok (.iload 5, 2) := by decide +kernel
theorem dX2_wordFor_26 : decode cX2_wordFor 26 = .ok (.iload_n 3, 1) := by decide +kernel
theorem dX2_wordFor_27 : decode cX2_wordFor 27 = .ok (.if_icmp .le 9, 3) := by decide +kernel
theorem dX2_wordFor_30 : decode cX2_wordFor 30 = .ok (.iload 5, 2) := by decide +kernel
theorem dX2_wordFor_32 : decode cX2_wordFor 32 = .ok (.istore_n 3, 1) := by decide +kernel
theorem dX2_wordFor_33 : decode cX2_wordFor 33 = .ok (.iload 4, 2) := by decide +kernel
theorem dX2_wordFor_35 : decode cX2_wordFor 35 = .ok (.istore_n 2, 1) := by decide +kernel
theorem dX2_wordFor_36 : decode cX2_wordFor 36 = .ok (.iinc 4 1, 3) := by decide +kernel
theorem dX2_wordFor_39 : decode cX2_wordFor 39 = .ok (.goto (-31), 3) := by decide +kernel
theorem dX2_wordFor_42 : decode cX2_wordFor 42 = .ok (.iload_n 2, 1) := by decide +kernel
theorem dX2_wordFor_43 : decode cX2_wordFor 43 = .ok (.ireturn, 1) := by decide +kernel
theorem dX2_meaningOf_0 : decode cX2_meaningOf 0 = .ok (.bipush (-6), 2) := by decide +kernel
theorem dX2_meaningOf_2 : decode cX2_meaningOf 2 = .ok (.istore_n 2, 1) := by decide +kernel
theorem dX2_meaningOf_3 : decode cX2_meaningOf 3 = .ok (.iconst 0, 1) := by decide +kernel
theorem dX2_meaningOf_4 : decode cX2_meaningOf 4 = .ok (.istore_n 3, 1) := by decide +kernel
theorem dX2_meaningOf_5 : decode cX2_meaningOf 5 = .ok (.iconst 0, 1) := by decide +kernel
theorem dX2_meaningOf_6 : decode cX2_meaningOf 6 = .ok (.istore 4, 2) := by decide +kernel
theorem dX2_meaningOf_8 : decode cX2_meaningOf 8 = .ok (.iload 4, 2) := by decide +kernel
theorem dX2_meaningOf_10 : decode cX2_meaningOf 10 = .ok (.bipush 6, 2) := by decide +kernel
theorem dX2_meaningOf_12 : decode cX2_meaningOf 12 = .ok (.if_icmp .ge 30, 3) := by decide +kernel
theorem dX2_meaningOf_15 : decode cX2_meaningOf 15 = .ok (.aload_n 0, 1) := by decide +kernel
theorem dX2_meaningOf_16 : decode cX2_meaningOf 16 = .ok (.iload 4, 2) := by decide +kernel
theorem dX2_meaningOf_18 : decode cX2_meaningOf 18 = .ok (.iload_n 1, 1) := by decide +kernel
theorem dX2_meaningOf_19 : decode cX2_meaningOf 19 = .ok (.invokevirtual 36, 3) := by decide +kernel
theorem dX2_meaningOf_22 : decode cX2_meaningOf 22 = .ok (.istore 5, 2) := by decide +kernel
theorem dX2_meaningOf_24 : decode cX2_meaningOf 24 = .ok (.iload 5, 2) := by decide +kernel
theorem dX2_meaningOf_26 : decode cX2_meaningOf 26 = .ok (.iload_n 3, 1) := by decide +kernel
theorem dX2_meaningOf_27 : decode cX2_meaningOf 27 = .ok (.if_icmp .le 9, 3) := by decide +kernel
theorem dX2_meaningOf_30 : decode cX2_meaningOf 30 = .ok (.iload 5, 2) := by decide +kernel
theorem dX2_meaningOf_32 : decode cX2_meaningOf 32 = .ok (.istore_n 3, 1) := by decide +kernel
theorem dX2_meaningOf_33 : decode cX2_meaningOf 33 = .ok (.iload 4, 2) := by decide +kernel
theorem dX2_meaningOf_35 : decode cX2_meaningOf 35 = .ok (.istore_n 2, 1) := by decide +kernel
theorem dX2_meaningOf_36 : decode cX2_meaningOf 36 = .ok (.iinc 4 1, 3) := by decide +kernel
theorem dX2_meaningOf_39 : decode cX2_meaningOf 39 = .ok (.goto (-31), 3) := by decide +kernel
theorem dX2_meaningOf_42 : decode cX2_meaningOf 42 = .ok (.iload_n 2, 1) := by decide +kernel
theorem dX2_meaningOf_43 : decode cX2_meaningOf 43 = .ok (.ireturn, 1) := by decide +kernel
theorem dX2_learnsWith_0 : decode cX2_learnsWith 0 = .ok (.iconst 1, 1) := by decide +kernel
theorem dX2_learnsWith_1 : decode cX2_learnsWith 1 = .ok (.iload_n 1, 1) := by decide +kernel
theorem dX2_learnsWith_2 : decode cX2_learnsWith 2 = .ok (.aload_n 0, 1) := by decide +kernel
theorem dX2_learnsWith_3 : decode cX2_learnsWith 3 = .ok (.getfield 25, 3) := by decide +kernel
theorem dX2_learnsWith_6 : decode cX2_learnsWith 6 = .ok (.bipush 20, 2) := by decide +kernel
theorem dX2_learnsWith_8 : decode cX2_learnsWith 8 = .ok (.idiv, 1) := by decide +kernel
theorem dX2_learnsWith_9 : decode cX2_learnsWith 9 = .ok (.isub, 1) := by decide +kernel
theorem dX2_learnsWith_10 : decode cX2_learnsWith 10 = .ok (.invokestatic 56, 3) := by decide +kernel
theorem dX2_learnsWith_13 : decode cX2_learnsWith 13 = .ok (.ireturn, 1) := by decide +kernel
theorem dX2_prefer_0 : decode cX2_prefer 0 = .ok (.aload_n 0, 1) := by decide +kernel
theorem dX2_prefer_1 : decode cX2_prefer 1 = .ok (.iload_n 1, 1) := by decide +kernel
theorem dX2_prefer_2 : decode cX2_prefer 2 = .ok (.iload_n 2, 1) := by decide +kernel
theorem dX2_prefer_3 : decode cX2_prefer 3 = .ok (.aload_n 0, 1) := by decide +kernel
theorem dX2_prefer_4 : decode cX2_prefer 4 = .ok (.iload_n 3, 1) := by decide +kernel
theorem dX2_prefer_5 : decode cX2_prefer 5 = .ok (.invokevirtual 59, 3) := by decide +kernel
theorem dX2_prefer_8 : decode cX2_prefer 8 = .ok (.invokevirtual 63, 3) := by decide +kernel
theorem dX2_prefer_11 : decode cX2_prefer 11 = .ok (.iconst 0, 1) := by decide +kernel
theorem dX2_prefer_12 : decode cX2_prefer 12 = .ok (.istore 5, 2) := by decide +kernel
theorem dX2_prefer_14 : decode cX2_prefer 14 = .ok (.iload 5, 2) := by decide +kernel
theorem dX2_prefer_16 : decode cX2_prefer 16 = .ok (.bipush 14, 2) := by decide +kernel
theorem dX2_prefer_18 : decode cX2_prefer 18 = .ok (.if_icmp .ge 25, 3) := by decide +kernel
theorem dX2_prefer_21 : decode cX2_prefer 21 = .ok (.iload 5, 2) := by decide +kernel
theorem dX2_prefer_23 : decode cX2_prefer 23 = .ok (.iload_n 2, 1) := by decide +kernel
theorem dX2_prefer_24 : decode cX2_prefer 24 = .ok (.if_icmp .eq 13, 3) := by decide +kernel
theorem dX2_prefer_27 : decode cX2_prefer 27 = .ok (.aload_n 0, 1) := by decide +kernel
theorem dX2_prefer_28 : decode cX2_prefer 28 = .ok (.iload_n 1, 1) := by decide +kernel
theorem dX2_prefer_29 : decode cX2_prefer 29 = .ok (.iload 5, 2) := by decide +kernel
theorem dX2_prefer_31 : decode cX2_prefer 31 = .ok (.iload 4, 2) := by decide +kernel
theorem dX2_prefer_33 : decode cX2_prefer 33 = .ok (.ineg, 1) := by decide +kernel
theorem dX2_prefer_34 : decode cX2_prefer 34 = .ok (.invokevirtual 63, 3) := by decide +kernel
theorem dX2_prefer_37 : decode cX2_prefer 37 = .ok (.iinc 5 1, 3) := by decide +kernel
theorem dX2_prefer_40 : decode cX2_prefer 40 = .ok (.goto (-26), 3) := by decide +kernel
theorem dX2_prefer_43 : decode cX2_prefer 43 = .ok (.return_, 1) := by decide +kernel
theorem dX2_forgetOtherMeanings_0 : decode cX2_forgetOtherMeanings 0 = .ok (.iconst 0, 1) := by decide +kernel
theorem dX2_forgetOtherMeanings_1 : decode cX2_forgetOtherMeanings 1 = .ok (.istore 4, 2) := by decide +kernel
theorem dX2_forgetOtherMeanings_3 : decode cX2_forgetOtherMeanings 3 = .ok (.iload 4, 2) := by decide +kernel
theorem dX2_forgetOtherMeanings_5 : decode cX2_forgetOtherMeanings 5 = .ok (.bipush 6, 2) := by decide +kernel
theorem dX2_forgetOtherMeanings_7 : decode cX2_forgetOtherMeanings 7 = .ok (.if_icmp .ge 24, 3) := by decide +kernel
theorem dX2_forgetOtherMeanings_10 : decode cX2_forgetOtherMeanings 10 = .ok (.iload 4, 2) := by decide +kernel
theorem dX2_forgetOtherMeanings_12 : decode cX2_forgetOtherMeanings 12 = .ok (.iload_n 1, 1) := by decide +kernel
theorem dX2_forgetOtherMeanings_13 : decode cX2_forgetOtherMeanings 13 = .ok (.if_icmp .eq 12, 3) := by decide +kernel
theorem dX2_forgetOtherMeanings_16 : decode cX2_forgetOtherMeanings 16 = .ok (.aload_n 0, 1) := by decide +kernel
theorem dX2_forgetOtherMeanings_17 : decode cX2_forgetOtherMeanings 17 = .ok (.iload 4, 2) := by decide +kernel
theorem dX2_forgetOtherMeanings_19 : decode cX2_forgetOtherMeanings 19 = .ok (.iload_n 2, 1) := by decide +kernel
theorem dX2_forgetOtherMeanings_20 : decode cX2_forgetOtherMeanings 20 = .ok (.iload_n 3, 1) := by decide +kernel
theorem dX2_forgetOtherMeanings_21 : decode cX2_forgetOtherMeanings 21 = .ok (.ineg, 1) := by decide +kernel
theorem dX2_forgetOtherMeanings_22 : decode cX2_forgetOtherMeanings 22 = .ok (.invokevirtual 63, 3) := by decide +kernel
theorem dX2_forgetOtherMeanings_25 : decode cX2_forgetOtherMeanings 25 = .ok (.iinc 4 1, 3) := by decide +kernel
theorem dX2_forgetOtherMeanings_28 : decode cX2_forgetOtherMeanings 28 = .ok (.goto (-25), 3) := by decide +kernel
theorem dX2_forgetOtherMeanings_31 : decode cX2_forgetOtherMeanings 31 = .ok (.return_, 1) := by decide +kernel
theorem dX2_sumOfWeights_0 : decode cX2_sumOfWeights 0 = .ok (.iconst 0, 1) := by decide +kernel
theorem dX2_sumOfWeights_1 : decode cX2_sumOfWeights 1 = .ok (.istore_n 1, 1) := by decide +kernel
theorem dX2_sumOfWeights_2 : decode cX2_sumOfWeights 2 = .ok (.aload_n 0, 1) := by decide +kernel
theorem dX2_sumOfWeights_3 : decode cX2_sumOfWeights 3 = .ok (.getfield 9, 3) := by decide +kernel
theorem dX2_sumOfWeights_6 : decode cX2_sumOfWeights 6 = .ok (.astore_n 2, 1) := by decide +kernel
theorem dX2_sumOfWeights_7 : decode cX2_sumOfWeights 7 = .ok (.aload_n 2, 1) := by decide +kernel
theorem dX2_sumOfWeights_8 : decode cX2_sumOfWeights 8 = .ok (.arraylength, 1) := by decide +kernel
theorem dX2_sumOfWeights_9 : decode cX2_sumOfWeights 9 = .ok (.istore_n 3, 1) := by decide +kernel
theorem dX2_sumOfWeights_10 : decode cX2_sumOfWeights 10 = .ok (.iconst 0, 1) := by decide +kernel
theorem dX2_sumOfWeights_11 : decode cX2_sumOfWeights 11 = .ok (.istore 4, 2) := by decide +kernel
theorem dX2_sumOfWeights_13 : decode cX2_sumOfWeights 13 = .ok (.iload 4, 2) := by decide +kernel
theorem dX2_sumOfWeights_15 : decode cX2_sumOfWeights 15 = .ok (.iload_n 3, 1) := by decide +kernel
theorem dX2_sumOfWeights_16 : decode cX2_sumOfWeights 16 = .ok (.if_icmp .ge 20, 3) := by decide +kernel
theorem dX2_sumOfWeights_19 : decode cX2_sumOfWeights 19 = .ok (.aload_n 2, 1) := by decide +kernel
theorem dX2_sumOfWeights_20 : decode cX2_sumOfWeights 20 = .ok (.iload 4, 2) := by decide +kernel
theorem dX2_sumOfWeights_22 : decode cX2_sumOfWeights 22 = .ok (.iaload, 1) := by decide +kernel
theorem dX2_sumOfWeights_23 : decode cX2_sumOfWeights 23 = .ok (.istore 5, 2) := by decide +kernel
theorem dX2_sumOfWeights_25 : decode cX2_sumOfWeights 25 = .ok (.iload_n 1, 1) := by decide +kernel
theorem dX2_sumOfWeights_26 : decode cX2_sumOfWeights 26 = .ok (.iload 5, 2) := by decide +kernel
theorem dX2_sumOfWeights_28 : decode cX2_sumOfWeights 28 = .ok (.iadd, 1) := by decide +kernel
theorem dX2_sumOfWeights_29 : decode cX2_sumOfWeights 29 = .ok (.istore_n 1, 1) := by decide +kernel
theorem dX2_sumOfWeights_30 : decode cX2_sumOfWeights 30 = .ok (.iinc 4 1, 3) := by decide +kernel
theorem dX2_sumOfWeights_33 : decode cX2_sumOfWeights 33 = .ok (.goto (-20), 3) := by decide +kernel
theorem dX2_sumOfWeights_36 : decode cX2_sumOfWeights 36 = .ok (.iload_n 1, 1) := by decide +kernel
theorem dX2_sumOfWeights_37 : decode cX2_sumOfWeights 37 = .ok (.ireturn, 1) := by decide +kernel
theorem dX2_countWords_0 : decode cX2_countWords 0 = .ok (.iconst 0, 1) := by decide +kernel
theorem dX2_countWords_1 : decode cX2_countWords 1 = .ok (.istore_n 1, 1) := by decide +kernel
theorem dX2_countWords_2 : decode cX2_countWords 2 = .ok (.iconst 0, 1) := by decide +kernel
theorem dX2_countWords_3 : decode cX2_countWords 3 = .ok (.istore_n 2, 1) := by decide +kernel
theorem dX2_countWords_4 : decode cX2_countWords 4 = .ok (.iload_n 2, 1) := by decide +kernel
theorem dX2_countWords_5 : decode cX2_countWords 5 = .ok (.bipush 6, 2) := by decide +kernel
theorem dX2_countWords_7 : decode cX2_countWords 7 = .ok (.if_icmp .ge 22, 3) := by decide +kernel
theorem dX2_countWords_10 : decode cX2_countWords 10 = .ok (.aload_n 0, 1) := by decide +kernel
theorem dX2_countWords_11 : decode cX2_countWords 11 = .ok (.iload_n 2, 1) := by decide +kernel
theorem dX2_countWords_12 : decode cX2_countWords 12 = .ok (.invokevirtual 66, 3) := by decide +kernel
theorem dX2_countWords_15 : decode cX2_countWords 15 = .ok (.bipush (-6), 2) := by decide +kernel
theorem dX2_countWords_17 : decode cX2_countWords 17 = .ok (.if_icmp .eq 6, 3) := by decide +kernel
theorem dX2_countWords_20 : decode cX2_countWords 20 = .ok (.iinc 1 1, 3) := by decide +kernel
theorem dX2_countWords_23 : decode cX2_countWords 23 = .ok (.iinc 2 1, 3) := by decide +kernel
theorem dX2_countWords_26 : decode cX2_countWords 26 = .ok (.goto (-22), 3) := by decide +kernel
theorem dX2_countWords_29 : decode cX2_countWords 29 = .ok (.iload_n 1, 1) := by decide +kernel
theorem dX2_countWords_30 : decode cX2_countWords 30 = .ok (.ireturn, 1) := by decide +kernel
theorem dX2_countConfusions_0 : decode cX2_countConfusions 0 = .ok (.iconst 0, 1) := by decide +kernel
theorem dX2_countConfusions_1 : decode cX2_countConfusions 1 = .ok (.istore_n 1, 1) := by decide +kernel
theorem dX2_countConfusions_2 : decode cX2_countConfusions 2 = .ok (.iconst 0, 1) := by decide +kernel
theorem dX2_countConfusions_3 : decode cX2_countConfusions 3 = .ok (.istore_n 2, 1) := by decide +kernel
theorem dX2_countConfusions_4 : decode cX2_countConfusions 4 = .ok (.iload_n 2, 1) := by decide +kernel
theorem dX2_countConfusions_5 : decode cX2_countConfusions 5 = .ok (.bipush 6, 2) := by decide +kernel
theorem dX2_countConfusions_7 : decode cX2_countConfusions 7 = .ok (.if_icmp .ge 52, 3) := by decide +kernel
theorem dX2_countConfusions_10 : decode cX2_countConfusions 10 = .ok (.aload_n 0, 1) := by decide +kernel
theorem dX2_countConfusions_11 : decode cX2_countConfusions 11 = .ok (.iload_n 2, 1) := by decide +kernel
theorem dX2_countConfusions_12 : decode cX2_countConfusions 12 = .ok (.invokevirtual 66, 3) := by decide +kernel
theorem dX2_countConfusions_15 : decode cX2_countConfusions 15 = .ok (.istore_n 3, 1) := by decide +kernel
theorem dX2_countConfusions_16 : decode cX2_countConfusions 16 = .ok (.iload_n 2, 1) := by decide +kernel
theorem dX2_countConfusions_17 : decode cX2_countConfusions 17 = .ok (.iconst 1, 1) := by decide +kernel
theorem dX2_countConfusions_18 : decode cX2_countConfusions 18 = .ok (.iadd, 1) := by decide +kernel
theorem dX2_countConfusions_19 : decode cX2_countConfusions 19 = .ok (.istore 4, 2) := by decide +kernel
theorem dX2_countConfusions_21 : decode cX2_countConfusions 21 = .ok (.iload 4, 2) := by decide +kernel
theorem dX2_countConfusions_23 : decode cX2_countConfusions 23 = .ok (.bipush 6, 2) := by decide +kernel
theorem dX2_countConfusions_25 : decode cX2_countConfusions 25 = .ok (.if_icmp .ge 28, 3) := by decide +kernel
theorem dX2_countConfusions_28 : decode cX2_countConfusions 28 = .ok (.iload_n 3, 1) := by decide +kernel
theorem dX2_countConfusions_29 : decode cX2_countConfusions 29 = .ok (.bipush (-6), 2) := by decide +kernel
theorem dX2_countConfusions_31 : decode cX2_countConfusions 31 = .ok (.if_icmp .eq 16, 3) := by decide +kernel
theorem dX2_countConfusions_34 : decode cX2_countConfusions 34 = .ok (.iload_n 3, 1) := by decide +kernel
theorem dX2_countConfusions_35 : decode cX2_countConfusions 35 = .ok (.aload_n 0, 1) := by decide +kernel
theorem dX2_countConfusions_36 : decode cX2_countConfusions 36 = .ok (.iload 4, 2) := by decide +kernel
theorem dX2_countConfusions_38 : decode cX2_countConfusions 38 = .ok (.invokevirtual 66, 3) := by decide +kernel
theorem dX2_countConfusions_41 : decode cX2_countConfusions 41 = .ok (.if_icmp .ne 6, 3) := by decide +kernel
theorem dX2_countConfusions_44 : decode cX2_countConfusions 44 = .ok (.iinc 1 1, 3) := by decide +kernel
theorem dX2_countConfusions_47 : decode cX2_countConfusions 47 = .ok (.iinc 4 1, 3) := by decide +kernel
theorem dX2_countConfusions_50 : decode cX2_countConfusions 50 = .ok (.goto (-29), 3) := by decide +kernel
theorem dX2_countConfusions_53 : decode cX2_countConfusions 53 = .ok (.iinc 2 1, 3) := by decide +kernel
theorem dX2_countConfusions_56 : decode cX2_countConfusions 56 = .ok (.goto (-52), 3) := by decide +kernel
theorem dX2_countConfusions_59 : decode cX2_countConfusions 59 = .ok (.iload_n 1, 1) := by decide +kernel
theorem dX2_countConfusions_60 : decode cX2_countConfusions 60 = .ok (.ireturn, 1) := by decide +kernel
theorem dX3_init_0 : decode cX3_init 0 = .ok (.aload_n 0, 1) := by decide +kernel
theorem dX3_init_1 : decode cX3_init 1 = .ok (.invokespecial 3, 3) := by decide +kernel
theorem dX3_init_4 : decode cX3_init 4 = .ok (.aload_n 0, 1) := by decide +kernel
theorem dX3_init_5 : decode cX3_init 5 = .ok (.bipush 8, 2) := by decide +kernel
theorem dX3_init_7 : decode cX3_init 7 = .ok (.anewarray 9, 3) := by decide +kernel
theorem dX3_init_10 : decode cX3_init 10 = .ok (.putfield 11, 3) := by decide +kernel
theorem dX3_init_13 : decode cX3_init 13 = .ok (.iconst 0, 1) := by decide +kernel
theorem dX3_init_14 : decode cX3_init 14 = .ok (.istore_n 1, 1) := by decide +kernel
theorem dX3_init_15 : decode cX3_init 15 = .ok (.iload_n 1, 1) := by decide +kernel
theorem dX3_init_16 : decode cX3_init 16 = .ok (.bipush 8, 2) := by decide +kernel
theorem dX3_init_18 : decode cX3_init 18 = .ok (.if_icmp .ge 22, 3) := by decide +kernel
theorem dX3_init_21 : decode cX3_init 21 = .ok (.aload_n 0, 1) := by decide +kernel
theorem dX3_init_22 : decode cX3_init 22 = .ok (.getfield 11, 3) := by decide +kernel
theorem dX3_init_25 : decode cX3_init 25 = .ok (.iload_n 1, 1) := by decide +kernel
theorem dX3_init_26 : decode cX3_init 26 = .ok (.new 9, 3) := by decide +kernel
theorem dX3_init_29 : decode cX3_init 29 = .ok (.dup, 1) := by decide +kernel
theorem dX3_init_30 : decode cX3_init 30 = .ok (.invokespecial 17, 3) := by decide +kernel
theorem dX3_init_33 : decode cX3_init 33 = .ok (.aastore, 1) := by decide +kernel
theorem dX3_init_34 : decode cX3_init 34 = .ok (.iinc 1 1, 3) := by decide +kernel
theorem dX3_init_37 : decode cX3_init 37 = .ok (.goto (-22), 3) := by decide +kernel
theorem dX3_init_40 : decode cX3_init 40 = .ok (.aload_n 0, 1) := by decide +kernel
theorem dX3_init_41 : decode cX3_init 41 = .ok (.iconst 4, 1) := by decide +kernel
theorem dX3_init_42 : decode cX3_init 42 = .ok (.newarray .int, 2) := by decide +kernel
theorem dX3_init_44 : decode cX3_init 44 = .ok (.putfield 18, 3) := by decide +kernel
theorem dX3_init_47 : decode cX3_init 47 = .ok (.aload_n 0, 1) := by decide +kernel
theorem dX3_init_48 : decode cX3_init 48 = .ok (.bipush 14, 2) := by decide +kernel
theorem dX3_init_50 : decode cX3_init 50 = .ok (.newarray .int, 2) := by decide +kernel
theorem dX3_init_52 : decode cX3_init 52 = .ok (.putfield 22, 3) := by decide +kernel
theorem dX3_init_55 : decode cX3_init 55 = .ok (.aload_n 0, 1) := by decide +kernel
theorem dX3_init_56 : decode cX3_init 56 = .ok (.getfield 18, 3) := by decide +kernel
theorem dX3_init_59 : decode cX3_init 59 = .ok (.iconst 0, 1) := by decide +kernel
theorem dX3_init_60 : decode cX3_init 60 = .ok (.iconst 4, 1) := by decide +kernel
theorem dX3_init_61 : decode cX3_init 61 = .ok (.iastore, 1) := by decide +kernel
theorem dX3_init_62 : decode cX3_init 62 = .ok (.aload_n 0, 1) := by decide +kernel
theorem dX3_init_63 : decode cX3_init 63 = .ok (.getfield 18, 3) := by decide +kernel
theorem dX3_init_66 : decode cX3_init 66 = .ok (.iconst 1, 1) := by decide +kernel
theorem dX3_init_67 : decode cX3_init 67 = .ok (.iconst 1, 1) := by decide +kernel
theorem dX3_init_68 : decode cX3_init 68 = .ok (.iastore, 1) := by decide +kernel
theorem dX3_init_69 : decode cX3_init 69 = .ok (.aload_n 0, 1) := by decide +kernel
theorem dX3_init_70 : decode cX3_init 70 = .ok (.getfield 18, 3) := by decide +kernel
theorem dX3_init_73 : decode cX3_init 73 = .ok (.iconst 2, 1) := by decide +kernel
theorem dX3_init_74 : decode cX3_init 74 = .ok (.bipush 60, 2) := by decide +kernel
theorem dX3_init_76 : decode cX3_init 76 = .ok (.iastore, 1) := by decide +kernel
theorem dX3_init_77 : decode cX3_init 77 = .ok (.aload_n 0, 1) := by decide +kernel
theorem dX3_init_78 : decode cX3_init 78 = .ok (.getfield 18, 3) := by decide +kernel
theorem dX3_init_81 : decode cX3_init 81 = .ok (.iconst 3, 1) := by decide +kernel
theorem dX3_init_82 : decode cX3_init 82 = .ok (.bipush 50, 2) := by decide +kernel
theorem dX3_init_84 : decode cX3_init 84 = .ok (.iastore, 1) := by decide +kernel
theorem dX3_init_85 : decode cX3_init 85 = .ok (.aload_n 0, 1) := by decide +kernel
theorem dX3_init_86 : decode cX3_init 86 = .ok (.iconst 1, 1) := by decide +kernel
theorem dX3_init_87 : decode cX3_init 87 = .ok (.putfield 25, 3) := by decide +kernel
theorem dX3_init_90 : decode cX3_init 90 = .ok (.return_, 1) := by decide +kernel
theorem dX3_copyFrom_0 : decode cX3_copyFrom 0 = .ok (.iconst 0, 1) := by decide +kernel
theorem dX3_copyFrom_1 : decode cX3_copyFrom 1 = .ok (.istore_n 2, 1) := by decide +kernel
theorem dX3_copyFrom_2 : decode cX3_copyFrom 2 = .ok (.iload_n 2, 1) := by decide +kernel
theorem dX3_copyFrom_3 : decode cX3_copyFrom 3 = .ok (.bipush 8, 2) := by decide +kernel
theorem dX3_copyFrom_5 : decode cX3_copyFrom 5 = .ok (.if_icmp .ge 24, 3) := by decide +kernel
theorem dX3_copyFrom_8 : decode cX3_copyFrom 8 = .ok (.aload_n 0, 1) := by decide +kernel
theorem dX3_copyFrom_9 : decode cX3_copyFrom 9 = .ok (.getfield 11, 3) := by decide +kernel
theorem dX3_copyFrom_12 : decode cX3_copyFrom 12 = .ok (.iload_n 2, 1) := by decide +kernel
theorem dX3_copyFrom_13 : decode cX3_copyFrom 13 = .ok (.aaload, 1) := by decide +kernel
theorem dX3_copyFrom_14 : decode cX3_copyFrom 14 = .ok (.aload_n 1, 1) := by decide +kernel
theorem dX3_copyFrom_15 : decode cX3_copyFrom 15 = .ok (.getfield 11, 3) := by decide +kernel
theorem dX3_copyFrom_18 : decode cX3_copyFrom 18 = .ok (.iload_n 2, 1) := by decide +kernel
theorem dX3_copyFrom_19 : decode cX3_copyFrom 19 = .ok (.aaload, 1) := by decide +kernel
theorem dX3_copyFrom_20 : decode cX3_copyFrom 20 = .ok (.invokevirtual 29, 3) := by decide +kernel
theorem dX3_copyFrom_23 : decode cX3_copyFrom 23 = .ok (.iinc 2 1, 3) := by decide +kernel
theorem dX3_copyFrom_26 : decode cX3_copyFrom 26 = .ok (.goto (-24), 3) := by decide +kernel
theorem dX3_copyFrom_29 : decode cX3_copyFrom 29 = .ok (.aload_n 1, 1) := by decide +kernel
theorem dX3_copyFrom_30 : decode cX3_copyFrom 30 = .ok (.getfield 18, 3) := by decide +kernel
theorem dX3_copyFrom_33 : decode cX3_copyFrom 33 = .ok (.iconst 0, 1) := by decide +kernel
theorem dX3_copyFrom_34 : decode cX3_copyFrom 34 = .ok (.aload_n 0, 1) := by decide +kernel
theorem dX3_copyFrom_35 : decode cX3_copyFrom 35 = .ok (.getfield 18, 3) := by decide +kernel
theorem dX3_copyFrom_38 : decode cX3_copyFrom 38 = .ok (.iconst 0, 1) := by decide +kernel
theorem dX3_copyFrom_39 : decode cX3_copyFrom 39 = .ok (.iconst 4, 1) := by decide +kernel
theorem dX3_copyFrom_40 : decode cX3_copyFrom 40 = .ok (.invokestatic 33, 3) := by decide +kernel
theorem dX3_copyFrom_43 : decode cX3_copyFrom 43 = .ok (.aload_n 0, 1) := by decide +kernel
theorem dX3_copyFrom_44 : decode cX3_copyFrom 44 = .ok (.aload_n 1, 1) := by decide +kernel
theorem dX3_copyFrom_45 : decode cX3_copyFrom 45 = .ok (.getfield 25, 3) := by decide +kernel
theorem dX3_copyFrom_48 : decode cX3_copyFrom 48 = .ok (.putfield 25, 3) := by decide +kernel
theorem dX3_copyFrom_51 : decode cX3_copyFrom 51 = .ok (.aload_n 0, 1) := by decide +kernel
theorem dX3_copyFrom_52 : decode cX3_copyFrom 52 = .ok (.aload_n 1, 1) := by decide +kernel
theorem dX3_copyFrom_53 : decode cX3_copyFrom 53 = .ok (.getfield 39, 3) := by decide +kernel
theorem dX3_copyFrom_56 : decode cX3_copyFrom 56 = .ok (.putfield 39, 3) := by decide +kernel
theorem dX3_copyFrom_59 : decode cX3_copyFrom 59 = .ok (.aload_n 0, 1) := by decide +kernel
theorem dX3_copyFrom_60 : decode cX3_copyFrom 60 = .ok (.aload_n 1, 1) := by decide +kernel
theorem dX3_copyFrom_61 : decode cX3_copyFrom 61 = .ok (.getfield 42, 3) := by decide +kernel
theorem dX3_copyFrom_64 : decode cX3_copyFrom 64 = .ok (.putfield 42, 3) := by decide +kernel
theorem dX3_copyFrom_67 : decode cX3_copyFrom 67 = .ok (.aload_n 0, 1) := by decide +kernel
theorem dX3_copyFrom_68 : decode cX3_copyFrom 68 = .ok (.aload_n 1, 1) := by decide +kernel
theorem dX3_copyFrom_69 : decode cX3_copyFrom 69 = .ok (.getfield 45, 3) := by decide +kernel
theorem dX3_copyFrom_72 : decode cX3_copyFrom 72 = .ok (.putfield 45, 3) := by decide +kernel
theorem dX3_copyFrom_75 : decode cX3_copyFrom 75 = .ok (.aload_n 0, 1) := by decide +kernel
theorem dX3_copyFrom_76 : decode cX3_copyFrom 76 = .ok (.aload_n 1, 1) := by decide +kernel
theorem dX3_copyFrom_77 : decode cX3_copyFrom 77 = .ok (.getfield 48, 3) := by decide +kernel
theorem dX3_copyFrom_80 : decode cX3_copyFrom 80 = .ok (.putfield 48, 3) := by decide +kernel
theorem dX3_copyFrom_83 : decode cX3_copyFrom 83 = .ok (.return_, 1) := by decide +kernel
theorem dX3_find_0 : decode cX3_find 0 = .ok (.iload_n 1, 1) := by decide +kernel
theorem dX3_find_1 : decode cX3_find 1 = .ok (.bipush 8, 2) := by decide +kernel
theorem dX3_find_3 : decode cX3_find 3 = .ok (.invokestatic 51, 3) := by decide +kernel
theorem dX3_find_6 : decode cX3_find 6 = .ok (.ifCond .eq 24, 3) := by decide +kernel
theorem dX3_find_9 : decode cX3_find 9 = .ok (.aload_n 0, 1) := by decide +kernel
theorem dX3_find_10 : decode cX3_find 10 = .ok (.getfield 11, 3) := by decide +kernel
theorem dX3_find_13 : decode cX3_find 13 = .ok (.iload_n 1, 1) := by decide +kernel
theorem dX3_find_14 : decode cX3_find 14 = .ok (.aaload, 1) := by decide +kernel
theorem dX3_find_15 : decode cX3_find 15 = .ok (.getfield 55, 3) := by decide +kernel
theorem dX3_find_18 : decode cX3_find 18 = .ok (.ifCond .eq 12, 3) := by decide +kernel
theorem dX3_find_21 : decode cX3_find 21 = .ok (.aload_n 0, 1) := by decide +kernel
theorem dX3_find_22 : decode cX3_find 22 = .ok (.getfield 11, 3) := by decide +kernel
theorem dX3_find_25 : decode cX3_find 25 = .ok (.iload_n 1, 1) := by decide +kernel
theorem dX3_find_26 : decode cX3_find 26 = .ok (.aaload, 1) := by decide +kernel
theorem dX3_find_27 : decode cX3_find 27 = .ok (.goto 4, 3) := by decide +kernel
theorem dX3_find_30 : decode cX3_find 30 = .ok (.aconst_null, 1) := by decide +kernel
theorem dX3_find_31 : decode cX3_find 31 = .ok (.areturn, 1) := by decide +kernel
theorem dX3_lowestFree_0 : decode cX3_lowestFree 0 = .ok (.iconst 0, 1) := by decide +kernel
theorem dX3_lowestFree_1 : decode cX3_lowestFree 1 = .ok (.istore_n 1, 1) := by decide +kernel
theorem dX3_lowestFree_2 : decode cX3_lowestFree 2 = .ok (.iload_n 1, 1) := by decide +kernel
theorem dX3_lowestFree_3 : decode cX3_lowestFree 3 = .ok (.bipush 8, 2) := by decide +kernel
theorem dX3_lowestFree_5 : decode cX3_lowestFree 5 = .ok (.if_icmp .ge 23, 3) := by decide +kernel
theorem dX3_lowestFree_8 : decode cX3_lowestFree 8 = .ok (.aload_n 0, 1) := by decide +kernel
theorem dX3_lowestFree_9 : decode cX3_lowestFree 9 = .ok (.getfield 11, 3) := by decide +kernel
theorem dX3_lowestFree_12 : decode cX3_lowestFree 12 = .ok (.iload_n 1, 1) := by decide +kernel
theorem dX3_lowestFree_13 : decode cX3_lowestFree 13 = .ok (.aaload, 1) := by decide +kernel
theorem dX3_lowestFree_14 : decode cX3_lowestFree 14 = .ok (.getfield 55, 3) := by decide +kernel
theorem dX3_lowestFree_17 : decode cX3_lowestFree 17 = .ok (.ifCond .ne 5, 3) := by decide +kernel
theorem dX3_lowestFree_20 : decode cX3_lowestFree 20 = .ok (.iload_n 1, 1) := by decide +kernel
theorem dX3_lowestFree_21 : decode cX3_lowestFree 21 = .ok (.ireturn, 1) := by decide +kernel
theorem dX3_lowestFree_22 : decode cX3_lowestFree 22 = .ok (.iinc 1 1, 3) := by decide +kernel
theorem dX3_lowestFree_25 : decode cX3_lowestFree 25 = .ok (.goto (-23), 3) := by decide +kernel
theorem dX3_lowestFree_28 : decode cX3_lowestFree 28 = .ok (.bipush (-6), 2) := by decide +kernel
theorem dX3_lowestFree_30 : decode cX3_lowestFree 30 = .ok (.ireturn, 1) := by decide +kernel
theorem dX3_welcome_0 : decode cX3_welcome 0 = .ok (.iload_n 1, 1) := by decide +kernel
theorem dX3_welcome_1 : decode cX3_welcome 1 = .ok (.bipush 8, 2) := by decide +kernel
theorem dX3_welcome_3 : decode cX3_welcome 3 = .ok (.invokestatic 51, 3) := by decide +kernel
theorem dX3_welcome_6 : decode cX3_welcome 6 = .ok (.ifCond .eq 12, 3) := by decide +kernel
theorem dX3_welcome_9 : decode cX3_welcome 9 = .ok (.aload_n 0, 1) := by decide +kernel
theorem dX3_welcome_10 : decode cX3_welcome 10 = .ok (.getfield 11, 3) := by decide +kernel
theorem dX3_welcome_13 : decode cX3_welcome 13 = .ok (.iload_n 1, 1) := by decide +kernel
theorem dX3_welcome_14 : decode cX3_welcome 14 = .ok (.aaload, 1) := by decide +kernel
theorem dX3_welcome_15 : decode cX3_welcome 15 = .ok (.invokevirtual 59, 3) := by decide +kernel
theorem dX3_welcome_18 : decode cX3_welcome 18 = .ok (.return_, 1) := by decide +kernel
theorem dX3_settingAt_0 : decode cX3_settingAt 0 = .ok (.iload_n 1, 1) := by decide +kernel
theorem dX3_settingAt_1 : decode cX3_settingAt 1 = .ok (.iconst 4, 1) := by decide +kernel
theorem dX3_settingAt_2 : decode cX3_settingAt 2 = .ok (.invokestatic 51, 3) := by decide +kernel
theorem dX3_settingAt_5 : decode cX3_settingAt 5 = .ok (.ifCond .eq 12, 3) := by decide +kernel
theorem dX3_settingAt_8 : decode cX3_settingAt 8 = .ok (.aload_n 0, 1) := by decide +kernel
theorem dX3_settingAt_9 : decode cX3_settingAt 9 = .ok (.getfield 18, 3) := by decide +kernel
theorem dX3_settingAt_12 : decode cX3_settingAt 12 = .ok (.iload_n 1, 1) := by decide +kernel
theorem dX3_settingAt_13 : decode cX3_settingAt 13 = .ok (.iaload, 1) := by decide +kernel
theorem dX3_settingAt_14 : decode cX3_settingAt 14 = .ok (.goto 4, 3) := by decide +kernel
theorem dX3_settingAt_17 : decode cX3_settingAt 17 = .ok (.iconst 0, 1) := by decide +kernel
theorem dX3_settingAt_18 : decode cX3_settingAt 18 = .ok (.ireturn, 1) := by decide +kernel
theorem dX3_putSetting_0 : decode cX3_putSetting 0 = .ok (.iload_n 1, 1) := by decide +kernel
theorem dX3_putSetting_1 : decode cX3_putSetting 1 = .ok (.iconst 4, 1) := by decide +kernel
theorem dX3_putSetting_2 : decode cX3_putSetting 2 = .ok (.invokestatic 51, 3) := by decide +kernel
theorem dX3_putSetting_5 : decode cX3_putSetting 5 = .ok (.ifCond .eq 10, 3) := by decide +kernel
theorem dX3_putSetting_8 : decode cX3_putSetting 8 = .ok (.aload_n 0, 1) := by decide +kernel
theorem dX3_putSetting_9 : decode cX3_putSetting 9 = .ok (.getfield 18, 3) := by decide +kernel
theorem dX3_putSetting_12 : decode cX3_putSetting 12 = .ok (.iload_n 1, 1) := by decide +kernel
theorem dX3_putSetting_13 : decode cX3_putSetting 13 = .ok (.iload_n 2, 1) := by decide +kernel
theorem dX3_putSetting_14 : decode cX3_putSetting 14 = .ok (.iastore, 1) := by decide +kernel
theorem dX3_putSetting_15 : decode cX3_putSetting 15 = .ok (.return_, 1) := by decide +kernel
theorem dX3_draw_0 : decode cX3_draw 0 = .ok (.aload_n 0, 1) := by decide +kernel
theorem dX3_draw_1 : decode cX3_draw 1 = .ok (.sipush 25173, 3) := by decide +kernel
theorem dX3_draw_4 : decode cX3_draw 4 = .ok (.aload_n 0, 1) := by decide +kernel
theorem dX3_draw_5 : decode cX3_draw 5 = .ok (.getfield 25, 3) := by decide +kernel
theorem dX3_draw_8 : decode cX3_draw 8 = .ok (.imul, 1) := by decide +kernel
theorem dX3_draw_9 : decode cX3_draw 9 = .ok (.sipush 13849, 3) := by decide +kernel
theorem dX3_draw_12 : decode cX3_draw 12 = .ok (.iadd, 1) := by decide +kernel
theorem dX3_draw_13 : decode cX3_draw 13 = .ok (.ldc 62, 2) := by decide +kernel
theorem dX3_draw_15 : decode cX3_draw 15 = .ok (.irem, 1) := by decide +kernel
theorem dX3_draw_16 : decode cX3_draw 16 = .ok (.putfield 25, 3) := by decide +kernel
theorem dX3_draw_19 : decode cX3_draw 19 = .ok (.iload_n 1, 1) := by decide +kernel
theorem dX3_draw_20 : decode cX3_draw 20 = .ok (.iconst 1, 1) := by decide +kernel
theorem dX3_draw_21 : decode cX3_draw 21 = .ok (.if_icmp .ge 7, 3) := by decide +kernel
theorem dX3_draw_24 : decode cX3_draw 24 = .ok (.iconst 0, 1) := by decide +kernel
theorem dX3_draw_25 : decode cX3_draw 25 = .ok (.goto 12, 3) := by decide +kernel
theorem dX3_draw_28 : decode cX3_draw 28 = .ok (.aload_n 0, 1) := by decide +kernel
theorem dX3_draw_29 : decode cX3_draw 29 = .ok (.getfield 25, 3) := by decide +kernel
theorem dX3_draw_32 : decode cX3_draw 32 = .ok (.bipush 16, 2) := by decide +kernel
theorem dX3_draw_34 : decode cX3_draw 34 = .ok (.idiv, 1) := by decide +kernel
theorem dX3_draw_35 : decode cX3_draw 35 = .ok (.iload_n 1, 1) := by decide +kernel
theorem dX3_draw_36 : decode cX3_draw 36 = .ok (.irem, 1) := by decide +kernel
theorem dX3_draw_37 : decode cX3_draw 37 = .ok (.ireturn, 1) := by decide +kernel
theorem dX3_countSpeakers_0 : decode cX3_countSpeakers 0 = .ok (.iconst 0, 1) := by decide +kernel
theorem dX3_countSpeakers_1 : decode cX3_countSpeakers 1 = .ok (.istore_n 1, 1) := by decide +kernel
theorem dX3_countSpeakers_2 : decode cX3_countSpeakers 2 = .ok (.iconst 0, 1) := by decide +kernel
theorem dX3_countSpeakers_3 : decode cX3_countSpeakers 3 = .ok (.istore_n 2, 1) := by decide +kernel
theorem dX3_countSpeakers_4 : decode cX3_countSpeakers 4 = .ok (.iload_n 2, 1) := by decide +kernel
theorem dX3_countSpeakers_5 : decode cX3_countSpeakers 5 = .ok (.bipush 8, 2) := by decide +kernel
theorem dX3_countSpeakers_7 : decode cX3_countSpeakers 7 = .ok (.if_icmp .ge 24, 3) := by decide +kernel
theorem dX3_countSpeakers_10 : decode cX3_countSpeakers 10 = .ok (.aload_n 0, 1) := by decide +kernel
theorem dX3_countSpeakers_11 : decode cX3_countSpeakers 11 = .ok (.getfield 11, 3) := by decide +kernel
theorem dX3_countSpeakers_14 : decode cX3_countSpeakers 14 = .ok (.iload_n 2, 1) := by decide +kernel
theorem dX3_countSpeakers_15 : decode cX3_countSpeakers 15 = .ok (.aaload, 1) := by decide +kernel
theorem dX3_countSpeakers_16 : decode cX3_countSpeakers 16 = .ok (.getfield 55, 3) := by decide +kernel
theorem dX3_countSpeakers_19 : decode cX3_countSpeakers 19 = .ok (.ifCond .eq 6, 3) := by decide +kernel
theorem dX3_countSpeakers_22 : decode cX3_countSpeakers 22 = .ok (.iinc 1 1, 3) := by decide +kernel
theorem dX3_countSpeakers_25 : decode cX3_countSpeakers 25 = .ok (.iinc 2 1, 3) := by decide +kernel
theorem dX3_countSpeakers_28 : decode cX3_countSpeakers 28 = .ok (.goto (-24), 3) := by decide +kernel
theorem dX3_countSpeakers_31 : decode cX3_countSpeakers 31 = .ok (.iload_n 1, 1) := by decide +kernel
theorem dX3_countSpeakers_32 : decode cX3_countSpeakers 32 = .ok (.ireturn, 1) := by decide +kernel
theorem dX3_numberInOrder_0 : decode cX3_numberInOrder 0 = .ok (.iconst 0, 1) := by decide +kernel
theorem dX3_numberInOrder_1 : decode cX3_numberInOrder 1 = .ok (.istore_n 3, 1) := by decide +kernel
theorem dX3_numberInOrder_2 : decode cX3_numberInOrder 2 = .ok (.iconst 0, 1) := by decide +kernel
theorem dX3_numberInOrder_3 : decode cX3_numberInOrder 3 = .ok (.istore 4, 2) := by decide +kernel
theorem dX3_numberInOrder_5 : decode cX3_numberInOrder 5 = .ok (.iload 4, 2) := by decide +kernel
theorem dX3_numberInOrder_7 : decode cX3_numberInOrder 7 = .ok (.bipush 8, 2) := by decide +kernel
theorem dX3_numberInOrder_9 : decode cX3_numberInOrder 9 = .ok (.if_icmp .ge 42, 3) := by decide +kernel
theorem dX3_numberInOrder_12 : decode cX3_numberInOrder 12 = .ok (.aload_n 0, 1) := by decide +kernel
theorem dX3_numberInOrder_13 : decode cX3_numberInOrder 13 = .ok (.getfield 11, 3) := by decide +kernel
theorem dX3_numberInOrder_16 : decode cX3_numberInOrder 16 = .ok (.iload 4, 2) := by decide +kernel
theorem dX3_numberInOrder_18 : decode cX3_numberInOrder 18 = .ok (.aaload, 1) := by decide +kernel
theorem dX3_numberInOrder_19 : decode cX3_numberInOrder 19 = .ok (.getfield 55, 3) := by decide +kernel
theorem dX3_numberInOrder_22 : decode cX3_numberInOrder 22 = .ok (.ifCond .eq 23, 3) := by decide +kernel
theorem dX3_numberInOrder_25 : decode cX3_numberInOrder 25 = .ok (.iload 4, 2) := by decide +kernel
theorem dX3_numberInOrder_27 : decode cX3_numberInOrder 27 = .ok (.iload_n 2, 1) := by decide +kernel
theorem dX3_numberInOrder_28 : decode cX3_numberInOrder 28 = .ok (.if_icmp .ne 6, 3) := by decide +kernel
theorem dX3_numberInOrder_31 : decode cX3_numberInOrder 31 = .ok (.goto 14, 3) := by decide +kernel
theorem dX3_numberInOrder_34 : decode cX3_numberInOrder 34 = .ok (.iload_n 3, 1) := by decide +kernel
theorem dX3_numberInOrder_35 : decode cX3_numberInOrder 35 = .ok (.iload_n 1, 1) := by decide +kernel
theorem dX3_numberInOrder_36 : decode cX3_numberInOrder 36 = .ok (.if_icmp .ne 6, 3) := by decide +kernel
theorem dX3_numberInOrder_39 : decode cX3_numberInOrder 39 = .ok (.iload 4, 2) := by decide +kernel
theorem dX3_numberInOrder_41 : decode cX3_numberInOrder 41 = .ok (.ireturn, 1) := by decide +kernel
theorem dX3_numberInOrder_42 : decode cX3_numberInOrder 42 = .ok (.iinc 3 1, 3) := by decide +kernel
theorem dX3_numberInOrder_45 : decode cX3_numberInOrder 45 = .ok (.iinc 4 1, 3) := by decide +kernel
theorem dX3_numberInOrder_48 : decode cX3_numberInOrder 48 = .ok (.goto (-43), 3) := by decide +kernel
theorem dX3_numberInOrder_51 : decode cX3_numberInOrder 51 = .ok (.bipush (-6), 2) := by decide +kernel
theorem dX3_numberInOrder_53 : decode cX3_numberInOrder 53 = .ok (.ireturn, 1) := by decide +kernel
theorem dX3_holdMeeting_0 : decode cX3_holdMeeting 0 = .ok (.aload_n 1, 1) := by decide +kernel
theorem dX3_holdMeeting_1 : decode cX3_holdMeeting 1 = .ok (.iload_n 3, 1) := by decide +kernel
theorem dX3_holdMeeting_2 : decode cX3_holdMeeting 2 = .ok (.invokevirtual 63, 3) := by decide +kernel
theorem dX3_holdMeeting_5 : decode cX3_holdMeeting 5 = .ok (.istore 4, 2) := by decide +kernel
theorem dX3_holdMeeting_7 : decode cX3_holdMeeting 7 = .ok (.iload 4, 2) := by decide +kernel
theorem dX3_holdMeeting_9 : decode cX3_holdMeeting 9 = .ok (.bipush (-6), 2) := by decide +kernel
theorem dX3_holdMeeting_11 : decode cX3_holdMeeting 11 = .ok (.if_icmp .ne 11, 3) := by decide +kernel
theorem dX3_holdMeeting_14 : decode cX3_holdMeeting 14 = .ok (.aload_n 0, 1) := by decide +kernel
theorem dX3_holdMeeting_15 : decode cX3_holdMeeting 15 = .ok (.bipush 14, 2) := by decide +kernel
theorem dX3_holdMeeting_17 : decode cX3_holdMeeting 17 = .ok (.invokevirtual 67, 3) := by decide +kernel
theorem dX3_holdMeeting_20 : decode cX3_holdMeeting 20 = .ok (.istore 4, 2) := by decide +kernel
theorem dX3_holdMeeting_22 : decode cX3_holdMeeting 22 = .ok (.aload_n 2, 1) := by decide +kernel
theorem dX3_holdMeeting_23 : decode cX3_holdMeeting 23 = .ok (.iload 4, 2) := by decide +kernel
theorem dX3_holdMeeting_25 : decode cX3_holdMeeting 25 = .ok (.invokevirtual 70, 3) := by decide +kernel
theorem dX3_holdMeeting_28 : decode cX3_holdMeeting 28 = .ok (.istore 5, 2) := by decide +kernel
theorem dX3_holdMeeting_30 : decode cX3_holdMeeting 30 = .ok (.iload 5, 2) := by decide +kernel
theorem dX3_holdMeeting_32 : decode cX3_holdMeeting 32 = .ok (.bipush (-6), 2) := by decide +kernel
theorem dX3_holdMeeting_34 : decode cX3_holdMeeting 34 = .ok (.if_icmp .ne 11, 3) := by decide +kernel
theorem dX3_holdMeeting_37 : decode cX3_holdMeeting 37 = .ok (.aload_n 0, 1) := by decide +kernel
theorem dX3_holdMeeting_38 : decode cX3_holdMeeting 38 = .ok (.bipush 6, 2) := by decide +kernel
theorem dX3_holdMeeting_40 : decode cX3_holdMeeting 40 = .ok (.invokevirtual 67, 3) := by decide +kernel
theorem dX3_holdMeeting_43 : decode cX3_holdMeeting 43 = .ok (.istore 5, 2) := by decide +kernel
theorem dX3_holdMeeting_45 : decode cX3_holdMeeting 45 = .ok (.aload_n 0, 1) := by decide +kernel
theorem dX3_holdMeeting_46 : decode cX3_holdMeeting 46 = .ok (.dup, 1) := by decide +kernel
theorem dX3_holdMeeting_47 : decode cX3_holdMeeting 47 = .ok (.getfield 39, 3) := by decide +kernel
theorem dX3_holdMeeting_50 : decode cX3_holdMeeting 50 = .ok (.iconst 1, 1) := by decide +kernel
theorem dX3_holdMeeting_51 : decode cX3_holdMeeting 51 = .ok (.iadd, 1) := by decide +kernel
theorem dX3_holdMeeting_52 : decode cX3_holdMeeting 52 = .ok (.putfield 39, 3) := by decide +kernel
theorem dX3_holdMeeting_55 : decode cX3_holdMeeting 55 = .ok (.aload_n 1, 1) := by decide +kernel
theorem dX3_holdMeeting_56 : decode cX3_holdMeeting 56 = .ok (.dup, 1) := by decide +kernel
theorem dX3_holdMeeting_57 : decode cX3_holdMeeting 57 = .ok (.getfield 73, 3) := by decide +kernel
theorem dX3_holdMeeting_60 : decode cX3_holdMeeting 60 = .ok (.iconst 1, 1) := by decide +kernel
theorem dX3_holdMeeting_61 : decode cX3_holdMeeting 61 = .ok (.iadd, 1) := by decide +kernel
theorem dX3_holdMeeting_62 : decode cX3_holdMeeting 62 = .ok (.putfield 73, 3) := by decide +kernel
theorem dX3_holdMeeting_65 : decode cX3_holdMeeting 65 = .ok (.aload_n 2, 1) := by decide +kernel
theorem dX3_holdMeeting_66 : decode cX3_holdMeeting 66 = .ok (.dup, 1) := by decide +kernel
theorem dX3_holdMeeting_67 : decode cX3_holdMeeting 67 = .ok (.getfield 73, 3) := by decide +kernel
theorem dX3_holdMeeting_70 : decode cX3_holdMeeting 70 = .ok (.iconst 1, 1) := by decide +kernel
theorem dX3_holdMeeting_71 : decode cX3_holdMeeting 71 = .ok (.iadd, 1) := by decide +kernel
theorem dX3_holdMeeting_72 : decode cX3_holdMeeting 72 = .ok (.putfield 73, 3) := by decide +kernel
theorem dX3_holdMeeting_75 : decode cX3_holdMeeting 75 = .ok (.aload_n 0, 1) := by decide +kernel
theorem dX3_holdMeeting_76 : decode cX3_holdMeeting 76 = .ok (.getfield 18, 3) := by decide +kernel
theorem dX3_holdMeeting_79 : decode cX3_holdMeeting 79 = .ok (.iconst 1, 1) := by decide +kernel
theorem dX3_holdMeeting_80 : decode cX3_holdMeeting 80 = .ok (.iaload, 1) := by decide +kernel
theorem dX3_holdMeeting_81 : decode cX3_holdMeeting 81 = .ok (.istore 6, 2) := by decide +kernel
theorem dX3_holdMeeting_83 : decode cX3_holdMeeting 83 = .ok (.iload 5, 2) := by decide +kernel
theorem dX3_holdMeeting_85 : decode cX3_holdMeeting 85 = .ok (.iload_n 3, 1) := by decide +kernel
theorem dX3_holdMeeting_86 : decode cX3_holdMeeting 86 = .ok (.if_icmp .ne 55, 3) := by decide +kernel
theorem dX3_holdMeeting_89 : decode cX3_holdMeeting 89 = .ok (.aload_n 0, 1) := by decide +kernel
theorem dX3_holdMeeting_90 : decode cX3_holdMeeting 90 = .ok (.dup, 1) := by decide +kernel
theorem dX3_holdMeeting_91 : decode cX3_holdMeeting 91 = .ok (.getfield 42, 3) := by decide +kernel
theorem dX3_holdMeeting_94 : decode cX3_holdMeeting 94 = .ok (.iconst 1, 1) := by decide +kernel
theorem dX3_holdMeeting_95 : decode cX3_holdMeeting 95 = .ok (.iadd, 1) := by decide +kernel
theorem dX3_holdMeeting_96 : decode cX3_holdMeeting 96 = .ok (.putfield 42, 3) := by decide +kernel
theorem dX3_holdMeeting_99 : decode cX3_holdMeeting 99 = .ok (.aload_n 1, 1) := by decide +kernel
theorem dX3_holdMeeting_100 : decode cX3_holdMeeting 100 = .ok (.iload_n 3, 1) := by decide +kernel
theorem dX3_holdMeeting_101 : decode cX3_holdMeeting 101 = .ok (.iload 4, 2) := by decide +kernel
theorem dX3_holdMeeting_103 : decode cX3_holdMeeting 103 = .ok (.aload_n 0, 1) := by decide +kernel
theorem dX3_holdMeeting_104 : decode cX3_holdMeeting 104 = .ok (.getfield 18, 3) := by decide +kernel
theorem dX3_holdMeeting_107 : decode cX3_holdMeeting 107 = .ok (.iconst 0, 1) := by decide +kernel
theorem dX3_holdMeeting_108 : decode cX3_holdMeeting 108 = .ok (.iaload, 1) := by decide +kernel
theorem dX3_holdMeeting_109 : decode cX3_holdMeeting 109 = .ok (.iload 6, 2) := by decide +kernel
theorem dX3_holdMeeting_111 : decode cX3_holdMeeting 111 = .ok (.invokevirtual 74, 3) := by decide +kernel
theorem dX3_holdMeeting_114 : decode cX3_holdMeeting 114 = .ok (.aload_n 2, 1) := by decide +kernel
theorem dX3_holdMeeting_115 : decode cX3_holdMeeting 115 = .ok (.iload_n 3, 1) := by decide +kernel
theorem dX3_holdMeeting_116 : decode cX3_holdMeeting 116 = .ok (.iload 4, 2) := by decide +kernel
theorem dX3_holdMeeting_118 : decode cX3_holdMeeting 118 = .ok (.aload_n 0, 1) := by decide +kernel
theorem dX3_holdMeeting_119 : decode cX3_holdMeeting 119 = .ok (.getfield 18, 3) := by decide +kernel
theorem dX3_holdMeeting_122 : decode cX3_holdMeeting 122 = .ok (.iconst 0, 1) := by decide +kernel
theorem dX3_holdMeeting_123 : decode cX3_holdMeeting 123 = .ok (.iaload, 1) := by decide +kernel
theorem dX3_holdMeeting_124 : decode cX3_holdMeeting 124 = .ok (.iload 6, 2) := by decide +kernel
theorem dX3_holdMeeting_126 : decode cX3_holdMeeting 126 = .ok (.invokevirtual 74, 3) := by decide +kernel
theorem dX3_holdMeeting_129 : decode cX3_holdMeeting 129 = .ok (.aload_n 2, 1) := by decide +kernel
theorem dX3_holdMeeting_130 : decode cX3_holdMeeting 130 = .ok (.iload_n 3, 1) := by decide +kernel
theorem dX3_holdMeeting_131 : decode cX3_holdMeeting 131 = .ok (.iload 4, 2) := by decide +kernel
theorem dX3_holdMeeting_133 : decode cX3_holdMeeting 133 = .ok (.iload 6, 2) := by decide +kernel
theorem dX3_holdMeeting_135 : decode cX3_holdMeeting 135 = .ok (.invokevirtual 78, 3) := by decide +kernel
theorem dX3_holdMeeting_138 : decode cX3_holdMeeting 138 = .ok (.goto 32, 3) := by decide +kernel
theorem dX3_holdMeeting_141 : decode cX3_holdMeeting 141 = .ok (.aload_n 1, 1) := by decide +kernel
theorem dX3_holdMeeting_142 : decode cX3_holdMeeting 142 = .ok (.iload_n 3, 1) := by decide +kernel
theorem dX3_holdMeeting_143 : decode cX3_holdMeeting 143 = .ok (.iload 4, 2) := by decide +kernel
theorem dX3_holdMeeting_145 : decode cX3_holdMeeting 145 = .ok (.iload 6, 2) := by decide +kernel
theorem dX3_holdMeeting_147 : decode cX3_holdMeeting 147 = .ok (.ineg, 1) := by decide +kernel
theorem dX3_holdMeeting_148 : decode cX3_holdMeeting 148 = .ok (.invokevirtual 82, 3) := by decide +kernel
theorem dX3_holdMeeting_151 : decode cX3_holdMeeting 151 = .ok (.aload_n 2, 1) := by decide +kernel
theorem dX3_holdMeeting_152 : decode cX3_holdMeeting 152 = .ok (.iload_n 3, 1) := by decide +kernel
theorem dX3_holdMeeting_153 : decode cX3_holdMeeting 153 = .ok (.iload 4, 2) := by decide +kernel
theorem dX3_holdMeeting_155 : decode cX3_holdMeeting 155 = .ok (.iconst 1, 1) := by decide +kernel
theorem dX3_holdMeeting_156 : decode cX3_holdMeeting 156 = .ok (.invokevirtual 82, 3) := by decide +kernel
theorem dX3_holdMeeting_159 : decode cX3_holdMeeting 159 = .ok (.aload_n 2, 1) := by decide +kernel
theorem dX3_holdMeeting_160 : decode cX3_holdMeeting 160 = .ok (.iload 5, 2) := by decide +kernel
theorem dX3_holdMeeting_162 : decode cX3_holdMeeting 162 = .ok (.iload 4, 2) := by decide +kernel
theorem dX3_holdMeeting_164 : decode cX3_holdMeeting 164 = .ok (.iload 6, 2) := by decide +kernel
theorem dX3_holdMeeting_166 : decode cX3_holdMeeting 166 = .ok (.ineg, 1) := by decide +kernel
theorem dX3_holdMeeting_167 : decode cX3_holdMeeting 167 = .ok (.invokevirtual 82, 3) := by decide +kernel
theorem dX3_holdMeeting_170 : decode cX3_holdMeeting 170 = .ok (.bipush 10, 2) := by decide +kernel
theorem dX3_holdMeeting_172 : decode cX3_holdMeeting 172 = .ok (.iload 4, 2) := by decide +kernel
theorem dX3_holdMeeting_174 : decode cX3_holdMeeting 174 = .ok (.imul, 1) := by decide +kernel
theorem dX3_holdMeeting_175 : decode cX3_holdMeeting 175 = .ok (.iload 5, 2) := by decide +kernel
theorem dX3_holdMeeting_177 : decode cX3_holdMeeting 177 = .ok (.iadd, 1) := by decide +kernel
theorem dX3_holdMeeting_178 : decode cX3_holdMeeting 178 = .ok (.ireturn, 1) := by decide +kernel
theorem dX3_holdChats_0 : decode cX3_holdChats 0 = .ok (.aload_n 0, 1) := by decide +kernel
theorem dX3_holdChats_1 : decode cX3_holdChats 1 = .ok (.getfield 42, 3) := by decide +kernel
theorem dX3_holdChats_4 : decode cX3_holdChats 4 = .ok (.istore_n 2, 1) := by decide +kernel
theorem dX3_holdChats_5 : decode cX3_holdChats 5 = .ok (.aload_n 0, 1) := by decide +kernel
theorem dX3_holdChats_6 : decode cX3_holdChats 6 = .ok (.invokevirtual 85, 3) := by decide +kernel
theorem dX3_holdChats_9 : decode cX3_holdChats 9 = .ok (.istore_n 3, 1) := by decide +kernel
theorem dX3_holdChats_10 : decode cX3_holdChats 10 = .ok (.iconst 0, 1) := by decide +kernel
theorem dX3_holdChats_11 : decode cX3_holdChats 11 = .ok (.istore 4, 2) := by decide +kernel
theorem dX3_holdChats_13 : decode cX3_holdChats 13 = .ok (.iload 4, 2) := by decide +kernel
theorem dX3_holdChats_15 : decode cX3_holdChats 15 = .ok (.iload_n 1, 1) := by decide +kernel
theorem dX3_holdChats_16 : decode cX3_holdChats 16 = .ok (.if_icmp .ge 81, 3) := by decide +kernel
theorem dX3_holdChats_19 : decode cX3_holdChats 19 = .ok (.aload_n 0, 1) := by decide +kernel
theorem dX3_holdChats_20 : decode cX3_holdChats 20 = .ok (.aload_n 0, 1) := by decide +kernel
theorem dX3_holdChats_21 : decode cX3_holdChats 21 = .ok (.iload_n 3, 1) := by decide +kernel
theorem dX3_holdChats_22 : decode cX3_holdChats 22 = .ok (.invokevirtual 67, 3) := by decide +kernel
theorem dX3_holdChats_25 : decode cX3_holdChats 25 = .ok (.iconst (-1), 1) := by decide +kernel
theorem dX3_holdChats_26 : decode cX3_holdChats 26 = .ok (.invokevirtual 89, 3) := by decide +kernel
theorem dX3_holdChats_29 : decode cX3_holdChats 29 = .ok (.istore 5, 2) := by decide +kernel
theorem dX3_holdChats_31 : decode cX3_holdChats 31 = .ok (.aload_n 0, 1) := by decide +kernel
theorem dX3_holdChats_32 : decode cX3_holdChats 32 = .ok (.aload_n 0, 1) := by decide +kernel
theorem dX3_holdChats_33 : decode cX3_holdChats 33 = .ok (.iload_n 3, 1) := by decide +kernel
theorem dX3_holdChats_34 : decode cX3_holdChats 34 = .ok (.iconst 1, 1) := by decide +kernel
theorem dX3_holdChats_35 : decode cX3_holdChats 35 = .ok (.isub, 1) := by decide +kernel
theorem dX3_holdChats_36 : decode cX3_holdChats 36 = .ok (.invokevirtual 67, 3) := by decide +kernel
theorem dX3_holdChats_39 : decode cX3_holdChats 39 = .ok (.iload 5, 2) := by decide +kernel
theorem dX3_holdChats_41 : decode cX3_holdChats 41 = .ok (.invokevirtual 89, 3) := by decide +kernel
theorem dX3_holdChats_44 : decode cX3_holdChats 44 = .ok (.istore 6, 2) := by decide +kernel
theorem dX3_holdChats_46 : decode cX3_holdChats 46 = .ok (.aload_n 0, 1) := by decide +kernel
theorem dX3_holdChats_47 : decode cX3_holdChats 47 = .ok (.bipush 6, 2) := by decide +kernel
theorem dX3_holdChats_49 : decode cX3_holdChats 49 = .ok (.invokevirtual 67, 3) := by decide +kernel
theorem dX3_holdChats_52 : decode cX3_holdChats 52 = .ok (.istore 7, 2) := by decide +kernel
theorem dX3_holdChats_54 : decode cX3_holdChats 54 = .ok (.aload_n 0, 1) := by decide +kernel
theorem dX3_holdChats_55 : decode cX3_holdChats 55 = .ok (.iload 5, 2) := by decide +kernel
theorem dX3_holdChats_57 : decode cX3_holdChats 57 = .ok (.invokevirtual 93, 3) := by decide +kernel
theorem dX3_holdChats_60 : decode cX3_holdChats 60 = .ok (.astore 8, 2) := by decide +kernel
theorem dX3_holdChats_62 : decode cX3_holdChats 62 = .ok (.aload_n 0, 1) := by decide +kernel
theorem dX3_holdChats_63 : decode cX3_holdChats 63 = .ok (.iload 6, 2) := by decide +kernel
theorem dX3_holdChats_65 : decode cX3_holdChats 65 = .ok (.invokevirtual 93, 3) := by decide +kernel
theorem dX3_holdChats_68 : decode cX3_holdChats 68 = .ok (.astore 9, 2) := by decide +kernel
theorem dX3_holdChats_70 : decode cX3_holdChats 70 = .ok (.aload 8, 2) := by decide +kernel
theorem dX3_holdChats_72 : decode cX3_holdChats 72 = .ok (.ifnull 19, 3) := by decide +kernel
theorem dX3_holdChats_75 : decode cX3_holdChats 75 = .ok (.aload 9, 2) := by decide +kernel
theorem dX3_holdChats_77 : decode cX3_holdChats 77 = .ok (.ifnull 14, 3) := by decide +kernel
theorem dX3_holdChats_80 : decode cX3_holdChats 80 = .ok (.aload_n 0, 1) := by decide +kernel
theorem dX3_holdChats_81 : decode cX3_holdChats 81 = .ok (.aload 8, 2) := by decide +kernel
theorem dX3_holdChats_83 : decode cX3_holdChats 83 = .ok (.aload 9, 2) := by decide +kernel
theorem dX3_holdChats_85 : decode cX3_holdChats 85 = .ok (.iload 7, 2) := by decide +kernel
theorem dX3_holdChats_87 : decode cX3_holdChats 87 = .ok (.invokevirtual 97, 3) := by decide +kernel
theorem dX3_holdChats_90 : decode cX3_holdChats 90 = .ok (.pop, 1) := by decide +kernel
theorem dX3_holdChats_91 : decode cX3_holdChats 91 = .ok (.iinc 4 1, 3) := by decide +kernel
theorem dX3_holdChats_94 : decode cX3_holdChats 94 = .ok (.goto (-81), 3) := by decide +kernel
theorem dX3_holdChats_97 : decode cX3_holdChats 97 = .ok (.aload_n 0, 1) := by decide +kernel
theorem dX3_holdChats_98 : decode cX3_holdChats 98 = .ok (.getfield 42, 3) := by decide +kernel
theorem dX3_holdChats_101 : decode cX3_holdChats 101 = .ok (.iload_n 2, 1) := by decide +kernel
theorem dX3_holdChats_102 : decode cX3_holdChats 102 = .ok (.isub, 1) := by decide +kernel
theorem dX3_holdChats_103 : decode cX3_holdChats 103 = .ok (.ireturn, 1) := by decide +kernel
theorem dX3_passYears_0 : decode cX3_passYears 0 = .ok (.aload_n 0, 1) := by decide +kernel
theorem dX3_passYears_1 : decode cX3_passYears 1 = .ok (.getfield 45, 3) := by decide +kernel
theorem dX3_passYears_4 : decode cX3_passYears 4 = .ok (.istore_n 2, 1) := by decide +kernel
theorem dX3_passYears_5 : decode cX3_passYears 5 = .ok (.iconst 0, 1) := by decide +kernel
theorem dX3_passYears_6 : decode cX3_passYears 6 = .ok (.istore_n 3, 1) := by decide +kernel
theorem dX3_passYears_7 : decode cX3_passYears 7 = .ok (.iload_n 3, 1) := by decide +kernel
theorem dX3_passYears_8 : decode cX3_passYears 8 = .ok (.iload_n 1, 1) := by decide +kernel
theorem dX3_passYears_9 : decode cX3_passYears 9 = .ok (.if_icmp .ge 13, 3) := by decide +kernel
theorem dX3_passYears_12 : decode cX3_passYears 12 = .ok (.aload_n 0, 1) := by decide +kernel
theorem dX3_passYears_13 : decode cX3_passYears 13 = .ok (.invokevirtual 101, 3) := by decide +kernel
theorem dX3_passYears_16 : decode cX3_passYears 16 = .ok (.iinc 3 1, 3) := by decide +kernel
theorem dX3_passYears_19 : decode cX3_passYears 19 = .ok (.goto (-12), 3) := by decide +kernel
theorem dX3_passYears_22 : decode cX3_passYears 22 = .ok (.aload_n 0, 1) := by decide +kernel
theorem dX3_passYears_23 : decode cX3_passYears 23 = .ok (.getfield 45, 3) := by decide +kernel
theorem dX3_passYears_26 : decode cX3_passYears 26 = .ok (.iload_n 2, 1) := by decide +kernel
theorem dX3_passYears_27 : decode cX3_passYears 27 = .ok (.isub, 1) := by decide +kernel
theorem dX3_passYears_28 : decode cX3_passYears 28 = .ok (.ireturn, 1) := by decide +kernel
theorem dX3_passYear_0 : decode cX3_passYear 0 = .ok (.aload_n 0, 1) := by decide +kernel
theorem dX3_passYear_1 : decode cX3_passYear 1 = .ok (.dup, 1) := by decide +kernel
theorem dX3_passYear_2 : decode cX3_passYear 2 = .ok (.getfield 48, 3) := by decide +kernel
theorem dX3_passYear_5 : decode cX3_passYear 5 = .ok (.iconst 1, 1) := by decide +kernel
theorem dX3_passYear_6 : decode cX3_passYear 6 = .ok (.iadd, 1) := by decide +kernel
theorem dX3_passYear_7 : decode cX3_passYear 7 = .ok (.putfield 48, 3) := by decide +kernel
theorem dX3_passYear_10 : decode cX3_passYear 10 = .ok (.iconst 0, 1) := by decide +kernel
theorem dX3_passYear_11 : decode cX3_passYear 11 = .ok (.istore_n 1, 1) := by decide +kernel
theorem dX3_passYear_12 : decode cX3_passYear 12 = .ok (.iload_n 1, 1) := by decide +kernel
theorem dX3_passYear_13 : decode cX3_passYear 13 = .ok (.bipush 8, 2) := by decide +kernel
theorem dX3_passYear_15 : decode cX3_passYear 15 = .ok (.if_icmp .ge 36, 3) := by decide +kernel
theorem dX3_passYear_18 : decode cX3_passYear 18 = .ok (.aload_n 0, 1) := by decide +kernel
theorem dX3_passYear_19 : decode cX3_passYear 19 = .ok (.getfield 11, 3) := by decide +kernel
theorem dX3_passYear_22 : decode cX3_passYear 22 = .ok (.iload_n 1, 1) := by decide +kernel
theorem dX3_passYear_23 : decode cX3_passYear 23 = .ok (.aaload, 1) := by decide +kernel
theorem dX3_passYear_24 : decode cX3_passYear 24 = .ok (.getfield 55, 3) := by decide +kernel
theorem dX3_passYear_27 : decode cX3_passYear 27 = .ok (.ifCond .eq 18, 3) := by decide +kernel
theorem dX3_passYear_30 : decode cX3_passYear 30 = .ok (.aload_n 0, 1) := by decide +kernel
theorem dX3_passYear_31 : decode cX3_passYear 31 = .ok (.getfield 11, 3) := by decide +kernel
theorem dX3_passYear_34 : decode cX3_passYear 34 = .ok (.iload_n 1, 1) := by decide +kernel
theorem dX3_passYear_35 : decode cX3_passYear 35 = .ok (.aaload, 1) := by decide +kernel
theorem dX3_passYear_36 : decode cX3_passYear 36 = .ok (.dup, 1) := by decide +kernel
theorem dX3_passYear_37 : decode cX3_passYear 37 = .ok (.getfield 104, 3) := by decide +kernel
theorem dX3_passYear_40 : decode cX3_passYear 40 = .ok (.iconst 1, 1) := by decide +kernel
theorem dX3_passYear_41 : decode cX3_passYear 41 = .ok (.iadd, 1) := by decide +kernel
theorem dX3_passYear_42 : decode cX3_passYear 42 = .ok (.putfield 104, 3) := by decide +kernel
theorem dX3_passYear_45 : decode cX3_passYear 45 = .ok (.iinc 1 1, 3) := by decide +kernel
theorem dX3_passYear_48 : decode cX3_passYear 48 = .ok (.goto (-36), 3) := by decide +kernel
theorem dX3_passYear_51 : decode cX3_passYear 51 = .ok (.iconst 0, 1) := by decide +kernel
theorem dX3_passYear_52 : decode cX3_passYear 52 = .ok (.istore_n 1, 1) := by decide +kernel
theorem dX3_passYear_53 : decode cX3_passYear 53 = .ok (.iload_n 1, 1) := by decide +kernel
theorem dX3_passYear_54 : decode cX3_passYear 54 = .ok (.bipush 8, 2) := by decide +kernel
theorem dX3_passYear_56 : decode cX3_passYear 56 = .ok (.if_icmp .ge 61, 3) := by decide +kernel
theorem dX3_passYear_59 : decode cX3_passYear 59 = .ok (.aload_n 0, 1) := by decide +kernel
theorem dX3_passYear_60 : decode cX3_passYear 60 = .ok (.getfield 11, 3) := by decide +kernel
theorem dX3_passYear_63 : decode cX3_passYear 63 = .ok (.iload_n 1, 1) := by decide +kernel
theorem dX3_passYear_64 : decode cX3_passYear 64 = .ok (.aaload, 1) := by decide +kernel
theorem dX3_passYear_65 : decode cX3_passYear 65 = .ok (.astore_n 2, 1) := by decide +kernel
theorem dX3_passYear_66 : decode cX3_passYear 66 = .ok (.aload_n 2, 1) := by decide +kernel
theorem dX3_passYear_67 : decode cX3_passYear 67 = .ok (.getfield 55, 3) := by decide +kernel
theorem dX3_passYear_70 : decode cX3_passYear 70 = .ok (.ifCond .eq 41, 3) := by decide +kernel
theorem dX3_passYear_73 : decode cX3_passYear 73 = .ok (.aload_n 2, 1) := by decide +kernel
theorem dX3_passYear_74 : decode cX3_passYear 74 = .ok (.getfield 104, 3) := by decide +kernel
theorem dX3_passYear_77 : decode cX3_passYear 77 = .ok (.aload_n 0, 1) := by decide +kernel
theorem dX3_passYear_78 : decode cX3_passYear 78 = .ok (.getfield 18, 3) := by decide +kernel
theorem dX3_passYear_81 : decode cX3_passYear 81 = .ok (.iconst 2, 1) := by decide +kernel
theorem dX3_passYear_82 : decode cX3_passYear 82 = .ok (.iaload, 1) := by decide +kernel
theorem dX3_passYear_83 : decode cX3_passYear 83 = .ok (.if_icmp .le 28, 3) := by decide +kernel
theorem dX3_passYear_86 : decode cX3_passYear 86 = .ok (.aload_n 2, 1) := by decide +kernel
theorem dX3_passYear_87 : decode cX3_passYear 87 = .ok (.aload_n 0, 1) := by decide +kernel
theorem dX3_passYear_88 : decode cX3_passYear 88 = .ok (.iload_n 1, 1) := by decide +kernel
theorem dX3_passYear_89 : decode cX3_passYear 89 = .ok (.invokevirtual 105, 3) := by decide +kernel
theorem dX3_passYear_92 : decode cX3_passYear 92 = .ok (.aload_n 0, 1) := by decide +kernel
theorem dX3_passYear_93 : decode cX3_passYear 93 = .ok (.getfield 18, 3) := by decide +kernel
theorem dX3_passYear_96 : decode cX3_passYear 96 = .ok (.iconst 3, 1) := by decide +kernel
theorem dX3_passYear_97 : decode cX3_passYear 97 = .ok (.iaload, 1) := by decide +kernel
theorem dX3_passYear_98 : decode cX3_passYear 98 = .ok (.invokevirtual 108, 3) := by decide +kernel
theorem dX3_passYear_101 : decode cX3_passYear 101 = .ok (.aload_n 0, 1) := by decide +kernel
theorem dX3_passYear_102 : decode cX3_passYear 102 = .ok (.dup, 1) := by decide +kernel
theorem dX3_passYear_103 : decode cX3_passYear 103 = .ok (.getfield 45, 3) := by decide +kernel
theorem dX3_passYear_106 : decode cX3_passYear 106 = .ok (.iconst 1, 1) := by decide +kernel
theorem dX3_passYear_107 : decode cX3_passYear 107 = .ok (.iadd, 1) := by decide +kernel
theorem dX3_passYear_108 : decode cX3_passYear 108 = .ok (.putfield 45, 3) := by decide +kernel
theorem dX3_passYear_111 : decode cX3_passYear 111 = .ok (.iinc 1 1, 3) := by decide +kernel
theorem dX3_passYear_114 : decode cX3_passYear 114 = .ok (.goto (-61), 3) := by decide +kernel
theorem dX3_passYear_117 : decode cX3_passYear 117 = .ok (.return_, 1) := by decide +kernel
theorem dX3_teacherFor_0 : decode cX3_teacherFor 0 = .ok (.aconst_null, 1) := by decide +kernel
theorem dX3_teacherFor_1 : decode cX3_teacherFor 1 = .ok (.astore_n 2, 1) := by decide +kernel
theorem dX3_teacherFor_2 : decode cX3_teacherFor 2 = .ok (.iconst 0, 1) := by decide +kernel
theorem dX3_teacherFor_3 : decode cX3_teacherFor 3 = .ok (.istore_n 3, 1) := by decide +kernel
theorem dX3_teacherFor_4 : decode cX3_teacherFor 4 = .ok (.iload_n 3, 1) := by decide +kernel
theorem dX3_teacherFor_5 : decode cX3_teacherFor 5 = .ok (.bipush 8, 2) := by decide +kernel
theorem dX3_teacherFor_7 : decode cX3_teacherFor 7 = .ok (.if_icmp .ge 66, 3) := by decide +kernel
theorem dX3_teacherFor_10 : decode cX3_teacherFor 10 = .ok (.aload_n 0, 1) := by decide +kernel
theorem dX3_teacherFor_11 : decode cX3_teacherFor 11 = .ok (.getfield 11, 3) := by decide +kernel
theorem dX3_teacherFor_14 : decode cX3_teacherFor 14 = .ok (.iload_n 3, 1) := by decide +kernel
theorem dX3_teacherFor_15 : decode cX3_teacherFor 15 = .ok (.aaload, 1) := by decide +kernel
theorem dX3_teacherFor_16 : decode cX3_teacherFor 16 = .ok (.astore 4, 2) := by decide +kernel
theorem dX3_teacherFor_18 : decode cX3_teacherFor 18 = .ok (.iload_n 3, 1) := by decide +kernel
theorem dX3_teacherFor_19 : decode cX3_teacherFor 19 = .ok (.iload_n 1, 1) := by decide +kernel
theorem dX3_teacherFor_20 : decode cX3_teacherFor 20 = .ok (.if_icmp .eq 47, 3) := by decide +kernel
theorem dX3_teacherFor_23 : decode cX3_teacherFor 23 = .ok (.aload 4, 2) := by decide +kernel
theorem dX3_teacherFor_25 : decode cX3_teacherFor 25 = .ok (.getfield 55, 3) := by decide +kernel
theorem dX3_teacherFor_28 : decode cX3_teacherFor 28 = .ok (.ifCond .eq 39, 3) := by decide +kernel
theorem dX3_teacherFor_31 : decode cX3_teacherFor 31 = .ok (.aload 4, 2) := by decide +kernel
theorem dX3_teacherFor_33 : decode cX3_teacherFor 33 = .ok (.getfield 104, 3) := by decide +kernel
theorem dX3_teacherFor_36 : decode cX3_teacherFor 36 = .ok (.aload_n 0, 1) := by decide +kernel
theorem dX3_teacherFor_37 : decode cX3_teacherFor 37 = .ok (.getfield 18, 3) := by decide +kernel
theorem dX3_teacherFor_40 : decode cX3_teacherFor 40 = .ok (.iconst 2, 1) := by decide +kernel
theorem dX3_teacherFor_41 : decode cX3_teacherFor 41 = .ok (.iaload, 1) := by decide +kernel
theorem dX3_teacherFor_42 : decode cX3_teacherFor 42 = .ok (.if_icmp .le 6, 3) := by decide +kernel
theorem dX3_teacherFor_45 : decode cX3_teacherFor 45 = .ok (.goto 22, 3) := by decide +kernel
theorem dX3_teacherFor_48 : decode cX3_teacherFor 48 = .ok (.aload_n 2, 1) := by decide +kernel
theorem dX3_teacherFor_49 : decode cX3_teacherFor 49 = .ok (.ifnull 15, 3) := by decide +kernel
theorem dX3_teacherFor_52 : decode cX3_teacherFor 52 = .ok (.aload 4, 2) := by decide +kernel
theorem dX3_teacherFor_54 : decode cX3_teacherFor 54 = .ok (.getfield 104, 3) := by decide +kernel
theorem dX3_teacherFor_57 : decode cX3_teacherFor 57 = .ok (.aload_n 2, 1) := by decide +kernel
theorem dX3_teacherFor_58 : decode cX3_teacherFor 58 = .ok (.getfield 104, 3) := by decide +kernel
theorem dX3_teacherFor_61 : decode cX3_teacherFor 61 = .ok (.if_icmp .ge 6, 3) := by decide +kernel
theorem dX3_teacherFor_64 : decode cX3_teacherFor 64 = .ok (.aload 4, 2) := by decide +kernel
theorem dX3_teacherFor_66 : decode cX3_teacherFor 66 = .ok (.astore_n 2, 1) := by decide +kernel
theorem dX3_teacherFor_67 : decode cX3_teacherFor 67 = .ok (.iinc 3 1, 3) := by decide +kernel
theorem dX3_teacherFor_70 : decode cX3_teacherFor 70 = .ok (.goto (-66), 3) := by decide +kernel
theorem dX3_teacherFor_73 : decode cX3_teacherFor 73 = .ok (.aload_n 2, 1) := by decide +kernel
theorem dX3_teacherFor_74 : decode cX3_teacherFor 74 = .ok (.areturn, 1) := by decide +kernel
theorem dX3_numberOf_0 : decode cX3_numberOf 0 = .ok (.iload_n 1, 1) := by decide +kernel
theorem dX3_numberOf_1 : decode cX3_numberOf 1 = .ok (.tableswitch 69 0 5 #[39, 44, 49, 54, 59, 64], 39) := by decide +kernel
theorem dX3_numberOf_40 : decode cX3_numberOf 40 = .ok (.aload_n 0, 1) := by decide +kernel
theorem dX3_numberOf_41 : decode cX3_numberOf 41 = .ok (.invokevirtual 85, 3) := by decide +kernel
theorem dX3_numberOf_44 : decode cX3_numberOf 44 = .ok (.ireturn, 1) := by decide +kernel
theorem dX3_numberOf_45 : decode cX3_numberOf 45 = .ok (.aload_n 0, 1) := by decide +kernel
theorem dX3_numberOf_46 : decode cX3_numberOf 46 = .ok (.getfield 25, 3) := by decide +kernel
theorem dX3_numberOf_49 : decode cX3_numberOf 49 = .ok (.ireturn, 1) := by decide +kernel
theorem dX3_numberOf_50 : decode cX3_numberOf 50 = .ok (.aload_n 0, 1) := by decide +kernel
theorem dX3_numberOf_51 : decode cX3_numberOf 51 = .ok (.getfield 39, 3) := by decide +kernel
theorem dX3_numberOf_54 : decode cX3_numberOf 54 = .ok (.ireturn, 1) := by decide +kernel
theorem dX3_numberOf_55 : decode cX3_numberOf 55 = .ok (.aload_n 0, 1) := by decide +kernel
theorem dX3_numberOf_56 : decode cX3_numberOf 56 = .ok (.getfield 42, 3) := by decide +kernel
theorem dX3_numberOf_59 : decode cX3_numberOf 59 = .ok (.ireturn, 1) := by decide +kernel
theorem dX3_numberOf_60 : decode cX3_numberOf 60 = .ok (.aload_n 0, 1) := by decide +kernel
theorem dX3_numberOf_61 : decode cX3_numberOf 61 = .ok (.getfield 45, 3) := by decide +kernel
theorem dX3_numberOf_64 : decode cX3_numberOf 64 = .ok (.ireturn, 1) := by decide +kernel
theorem dX3_numberOf_65 : decode cX3_numberOf 65 = .ok (.aload_n 0, 1) := by decide +kernel
theorem dX3_numberOf_66 : decode cX3_numberOf 66 = .ok (.getfield 48, 3) := by decide +kernel
theorem dX3_numberOf_69 : decode cX3_numberOf 69 = .ok (.ireturn, 1) := by decide +kernel
theorem dX3_numberOf_70 : decode cX3_numberOf 70 = .ok (.aload_n 0, 1) := by decide +kernel
theorem dX3_numberOf_71 : decode cX3_numberOf 71 = .ok (.invokevirtual 112, 3) := by decide +kernel
theorem dX3_numberOf_74 : decode cX3_numberOf 74 = .ok (.ireturn, 1) := by decide +kernel
theorem dX3_numberOfSpeaker_0 : decode cX3_numberOfSpeaker 0 = .ok (.iload_n 2, 1) := by decide +kernel
theorem dX3_numberOfSpeaker_1 : decode cX3_numberOfSpeaker 1 = .ok (.tableswitch 57 0 3 #[31, 36, 47, 52], 31) := by decide +kernel
theorem dX3_numberOfSpeaker_32 : decode cX3_numberOfSpeaker 32 = .ok (.aload_n 1, 1) := by decide +kernel
theorem dX3_numberOfSpeaker_33 : decode cX3_numberOfSpeaker 33 = .ok (.getfield 104, 3) := by decide +kernel
theorem dX3_numberOfSpeaker_36 : decode cX3_numberOfSpeaker 36 = .ok (.ireturn, 1) := by decide +kernel
theorem dX3_numberOfSpeaker_37 : decode cX3_numberOfSpeaker 37 = .ok (.aload_n 1, 1) := by decide +kernel
theorem dX3_numberOfSpeaker_38 : decode cX3_numberOfSpeaker 38 = .ok (.aload_n 0, 1) := by decide +kernel
theorem dX3_numberOfSpeaker_39 : decode cX3_numberOfSpeaker 39 = .ok (.getfield 18, 3) := by decide +kernel
theorem dX3_numberOfSpeaker_42 : decode cX3_numberOfSpeaker 42 = .ok (.iconst 0, 1) := by decide +kernel
theorem dX3_numberOfSpeaker_43 : decode cX3_numberOfSpeaker 43 = .ok (.iaload, 1) := by decide +kernel
theorem dX3_numberOfSpeaker_44 : decode cX3_numberOfSpeaker 44 = .ok (.invokevirtual 115, 3) := by decide +kernel
theorem dX3_numberOfSpeaker_47 : decode cX3_numberOfSpeaker 47 = .ok (.ireturn, 1) := by decide +kernel
theorem dX3_numberOfSpeaker_48 : decode cX3_numberOfSpeaker 48 = .ok (.aload_n 1, 1) := by decide +kernel
theorem dX3_numberOfSpeaker_49 : decode cX3_numberOfSpeaker 49 = .ok (.invokevirtual 118, 3) := by decide +kernel
theorem dX3_numberOfSpeaker_52 : decode cX3_numberOfSpeaker 52 = .ok (.ireturn, 1) := by decide +kernel
theorem dX3_numberOfSpeaker_53 : decode cX3_numberOfSpeaker 53 = .ok (.aload_n 1, 1) := by decide +kernel
theorem dX3_numberOfSpeaker_54 : decode cX3_numberOfSpeaker 54 = .ok (.invokevirtual 121, 3) := by decide +kernel
theorem dX3_numberOfSpeaker_57 : decode cX3_numberOfSpeaker 57 = .ok (.ireturn, 1) := by decide +kernel
theorem dX3_numberOfSpeaker_58 : decode cX3_numberOfSpeaker 58 = .ok (.aload_n 1, 1) := by decide +kernel
theorem dX3_numberOfSpeaker_59 : decode cX3_numberOfSpeaker 59 = .ok (.getfield 73, 3) := by decide +kernel
theorem dX3_numberOfSpeaker_62 : decode cX3_numberOfSpeaker 62 = .ok (.ireturn, 1) := by decide +kernel
theorem dX3_sumOfWeights_0 : decode cX3_sumOfWeights 0 = .ok (.iconst 0, 1) := by decide +kernel
theorem dX3_sumOfWeights_1 : decode cX3_sumOfWeights 1 = .ok (.istore_n 1, 1) := by decide +kernel
theorem dX3_sumOfWeights_2 : decode cX3_sumOfWeights 2 = .ok (.iconst 0, 1) := by decide +kernel
theorem dX3_sumOfWeights_3 : decode cX3_sumOfWeights 3 = .ok (.istore_n 2, 1) := by decide +kernel
theorem dX3_sumOfWeights_4 : decode cX3_sumOfWeights 4 = .ok (.iload_n 2, 1) := by decide +kernel
theorem dX3_sumOfWeights_5 : decode cX3_sumOfWeights 5 = .ok (.bipush 8, 2) := by decide +kernel
theorem dX3_sumOfWeights_7 : decode cX3_sumOfWeights 7 = .ok (.if_icmp .ge 33, 3) := by decide +kernel
theorem dX3_sumOfWeights_10 : decode cX3_sumOfWeights 10 = .ok (.aload_n 0, 1) := by decide +kernel
theorem dX3_sumOfWeights_11 : decode cX3_sumOfWeights 11 = .ok (.getfield 11, 3) := by decide +kernel
theorem dX3_sumOfWeights_14 : decode cX3_sumOfWeights 14 = .ok (.iload_n 2, 1) := by decide +kernel
theorem dX3_sumOfWeights_15 : decode cX3_sumOfWeights 15 = .ok (.aaload, 1) := by decide +kernel
theorem dX3_sumOfWeights_16 : decode cX3_sumOfWeights 16 = .ok (.getfield 55, 3) := by decide +kernel
theorem dX3_sumOfWeights_19 : decode cX3_sumOfWeights 19 = .ok (.ifCond .eq 15, 3) := by decide +kernel
theorem dX3_sumOfWeights_22 : decode cX3_sumOfWeights 22 = .ok (.iload_n 1, 1) := by decide +kernel
theorem dX3_sumOfWeights_23 : decode cX3_sumOfWeights 23 = .ok (.aload_n 0, 1) := by decide +kernel
theorem dX3_sumOfWeights_24 : decode cX3_sumOfWeights 24 = .ok (.getfield 11, 3) := by decide +kernel
theorem dX3_sumOfWeights_27 : decode cX3_sumOfWeights 27 = .ok (.iload_n 2, 1) := by decide +kernel
theorem dX3_sumOfWeights_28 : decode cX3_sumOfWeights 28 = .ok (.aaload, 1) := by decide +kernel
theorem dX3_sumOfWeights_29 : decode cX3_sumOfWeights 29 = .ok (.invokevirtual 124, 3) := by decide +kernel
theorem dX3_sumOfWeights_32 : decode cX3_sumOfWeights 32 = .ok (.iadd, 1) := by decide +kernel
theorem dX3_sumOfWeights_33 : decode cX3_sumOfWeights 33 = .ok (.istore_n 1, 1) := by decide +kernel
theorem dX3_sumOfWeights_34 : decode cX3_sumOfWeights 34 = .ok (.iinc 2 1, 3) := by decide +kernel
theorem dX3_sumOfWeights_37 : decode cX3_sumOfWeights 37 = .ok (.goto (-33), 3) := by decide +kernel
theorem dX3_sumOfWeights_40 : decode cX3_sumOfWeights 40 = .ok (.iload_n 1, 1) := by decide +kernel
theorem dX3_sumOfWeights_41 : decode cX3_sumOfWeights 41 = .ok (.ireturn, 1) := by decide +kernel
theorem dX3_commonWord_0 : decode cX3_commonWord 0 = .ok (.aload_n 0, 1) := by decide +kernel
theorem dX3_commonWord_1 : decode cX3_commonWord 1 = .ok (.iload_n 1, 1) := by decide +kernel
theorem dX3_commonWord_2 : decode cX3_commonWord 2 = .ok (.invokevirtual 125, 3) := by decide +kernel
theorem dX3_commonWord_5 : decode cX3_commonWord 5 = .ok (.bipush (-6), 2) := by decide +kernel
theorem dX3_commonWord_7 : decode cX3_commonWord 7 = .ok (.istore_n 2, 1) := by decide +kernel
theorem dX3_commonWord_8 : decode cX3_commonWord 8 = .ok (.iconst 0, 1) := by decide +kernel
theorem dX3_commonWord_9 : decode cX3_commonWord 9 = .ok (.istore_n 3, 1) := by decide +kernel
theorem dX3_commonWord_10 : decode cX3_commonWord 10 = .ok (.iconst 0, 1) := by decide +kernel
theorem dX3_commonWord_11 : decode cX3_commonWord 11 = .ok (.istore 4, 2) := by decide +kernel
theorem dX3_commonWord_13 : decode cX3_commonWord 13 = .ok (.iload 4, 2) := by decide +kernel
theorem dX3_commonWord_15 : decode cX3_commonWord 15 = .ok (.bipush 14, 2) := by decide +kernel
theorem dX3_commonWord_17 : decode cX3_commonWord 17 = .ok (.if_icmp .ge 31, 3) := by decide +kernel
theorem dX3_commonWord_20 : decode cX3_commonWord 20 = .ok (.aload_n 0, 1) := by decide +kernel
theorem dX3_commonWord_21 : decode cX3_commonWord 21 = .ok (.getfield 22, 3) := by decide +kernel
theorem dX3_commonWord_24 : decode cX3_commonWord 24 = .ok (.iload 4, 2) := by decide +kernel
theorem dX3_commonWord_26 : decode cX3_commonWord 26 = .ok (.iaload, 1) := by decide +kernel
theorem dX3_commonWord_27 : decode cX3_commonWord 27 = .ok (.iload_n 3, 1) := by decide +kernel
theorem dX3_commonWord_28 : decode cX3_commonWord 28 = .ok (.if_icmp .le 14, 3) := by decide +kernel
theorem dX3_commonWord_31 : decode cX3_commonWord 31 = .ok (.aload_n 0, 1) := by decide +kernel
theorem dX3_commonWord_32 : decode cX3_commonWord 32 = .ok (.getfield 22, 3) := by decide +kernel
theorem dX3_commonWord_35 : decode cX3_commonWord 35 = .ok (.iload 4, 2) := by decide +kernel
theorem dX3_commonWord_37 : decode cX3_commonWord 37 = .ok (.iaload, 1) := by decide +kernel
theorem dX3_commonWord_38 : decode cX3_commonWord 38 = .ok (.istore_n 3, 1) := by decide +kernel
theorem dX3_commonWord_39 : decode cX3_commonWord 39 = .ok (.iload 4, 2) := by decide +kernel
theorem dX3_commonWord_41 : decode cX3_commonWord 41 = .ok (.istore_n 2, 1) := by decide +kernel
theorem dX3_commonWord_42 : decode cX3_commonWord 42 = .ok (.iinc 4 1, 3) := by decide +kernel
theorem dX3_commonWord_45 : decode cX3_commonWord 45 = .ok (.goto (-32), 3) := by decide +kernel
theorem dX3_commonWord_48 : decode cX3_commonWord 48 = .ok (.iload_n 2, 1) := by decide +kernel
theorem dX3_commonWord_49 : decode cX3_commonWord 49 = .ok (.ireturn, 1) := by decide +kernel
theorem dX3_countUsers_0 : decode cX3_countUsers 0 = .ok (.iconst 0, 1) := by decide +kernel
theorem dX3_countUsers_1 : decode cX3_countUsers 1 = .ok (.istore_n 2, 1) := by decide +kernel
theorem dX3_countUsers_2 : decode cX3_countUsers 2 = .ok (.iload_n 2, 1) := by decide +kernel
theorem dX3_countUsers_3 : decode cX3_countUsers 3 = .ok (.bipush 14, 2) := by decide +kernel
theorem dX3_countUsers_5 : decode cX3_countUsers 5 = .ok (.if_icmp .ge 16, 3) := by decide +kernel
theorem dX3_countUsers_8 : decode cX3_countUsers 8 = .ok (.aload_n 0, 1) := by decide +kernel
theorem dX3_countUsers_9 : decode cX3_countUsers 9 = .ok (.getfield 22, 3) := by decide +kernel
theorem dX3_countUsers_12 : decode cX3_countUsers 12 = .ok (.iload_n 2, 1) := by decide +kernel
theorem dX3_countUsers_13 : decode cX3_countUsers 13 = .ok (.iconst 0, 1) := by decide +kernel
theorem dX3_countUsers_14 : decode cX3_countUsers 14 = .ok (.iastore, 1) := by decide +kernel
theorem dX3_countUsers_15 : decode cX3_countUsers 15 = .ok (.iinc 2 1, 3) := by decide +kernel
theorem dX3_countUsers_18 : decode cX3_countUsers 18 = .ok (.goto (-16), 3) := by decide +kernel
theorem dX3_countUsers_21 : decode cX3_countUsers 21 = .ok (.iconst 0, 1) := by decide +kernel
theorem dX3_countUsers_22 : decode cX3_countUsers 22 = .ok (.istore_n 2, 1) := by decide +kernel
theorem dX3_countUsers_23 : decode cX3_countUsers 23 = .ok (.iload_n 2, 1) := by decide +kernel
theorem dX3_countUsers_24 : decode cX3_countUsers 24 = .ok (.bipush 8, 2) := by decide +kernel
theorem dX3_countUsers_26 : decode cX3_countUsers 26 = .ok (.if_icmp .ge 54, 3) := by decide +kernel
theorem dX3_countUsers_29 : decode cX3_countUsers 29 = .ok (.aload_n 0, 1) := by decide +kernel
theorem dX3_countUsers_30 : decode cX3_countUsers 30 = .ok (.getfield 11, 3) := by decide +kernel
theorem dX3_countUsers_33 : decode cX3_countUsers 33 = .ok (.iload_n 2, 1) := by decide +kernel
theorem dX3_countUsers_34 : decode cX3_countUsers 34 = .ok (.aaload, 1) := by decide +kernel
theorem dX3_countUsers_35 : decode cX3_countUsers 35 = .ok (.getfield 55, 3) := by decide +kernel
theorem dX3_countUsers_38 : decode cX3_countUsers 38 = .ok (.ifCond .eq 16, 3) := by decide +kernel
theorem dX3_countUsers_41 : decode cX3_countUsers 41 = .ok (.aload_n 0, 1) := by decide +kernel
theorem dX3_countUsers_42 : decode cX3_countUsers 42 = .ok (.getfield 11, 3) := by decide +kernel
theorem dX3_countUsers_45 : decode cX3_countUsers 45 = .ok (.iload_n 2, 1) := by decide +kernel
theorem dX3_countUsers_46 : decode cX3_countUsers 46 = .ok (.aaload, 1) := by decide +kernel
theorem dX3_countUsers_47 : decode cX3_countUsers 47 = .ok (.iload_n 1, 1) := by decide +kernel
theorem dX3_countUsers_48 : decode cX3_countUsers 48 = .ok (.invokevirtual 63, 3) := by decide +kernel
theorem dX3_countUsers_51 : decode cX3_countUsers 51 = .ok (.goto 5, 3) := by decide +kernel
theorem dX3_countUsers_54 : decode cX3_countUsers 54 = .ok (.bipush (-6), 2) := by decide +kernel
theorem dX3_countUsers_56 : decode cX3_countUsers 56 = .ok (.istore_n 3, 1) := by decide +kernel
theorem dX3_countUsers_57 : decode cX3_countUsers 57 = .ok (.iload_n 3, 1) := by decide +kernel
theorem dX3_countUsers_58 : decode cX3_countUsers 58 = .ok (.invokestatic 129, 3) := by decide +kernel
theorem dX3_countUsers_61 : decode cX3_countUsers 61 = .ok (.ifCond .eq 13, 3) := by decide +kernel
theorem dX3_countUsers_64 : decode cX3_countUsers 64 = .ok (.aload_n 0, 1) := by decide +kernel
theorem dX3_countUsers_65 : decode cX3_countUsers 65 = .ok (.getfield 22, 3) := by decide +kernel
theorem dX3_countUsers_68 : decode cX3_countUsers 68 = .ok (.iload_n 3, 1) := by decide +kernel
theorem dX3_countUsers_69 : decode cX3_countUsers 69 = .ok (.dup2, 1) := by decide +kernel
theorem dX3_countUsers_70 : decode cX3_countUsers 70 = .ok (.iaload, 1) := by decide +kernel
theorem dX3_countUsers_71 : decode cX3_countUsers 71 = .ok (.iconst 1, 1) := by decide +kernel
theorem dX3_countUsers_72 : decode cX3_countUsers 72 = .ok (.iadd, 1) := by decide +kernel
theorem dX3_countUsers_73 : decode cX3_countUsers 73 = .ok (.iastore, 1) := by decide +kernel
theorem dX3_countUsers_74 : decode cX3_countUsers 74 = .ok (.iinc 2 1, 3) := by decide +kernel
theorem dX3_countUsers_77 : decode cX3_countUsers 77 = .ok (.goto (-54), 3) := by decide +kernel
theorem dX3_countUsers_80 : decode cX3_countUsers 80 = .ok (.return_, 1) := by decide +kernel
theorem dX4_init_0 : decode cX4_init 0 = .ok (.aload_n 0, 1) := by decide +kernel
theorem dX4_init_1 : decode cX4_init 1 = .ok (.invokespecial 1, 3) := by decide +kernel
theorem dX4_init_4 : decode cX4_init 4 = .ok (.aload_n 0, 1) := by decide +kernel
theorem dX4_init_5 : decode cX4_init 5 = .ok (.new 7, 3) := by decide +kernel
theorem dX4_init_8 : decode cX4_init 8 = .ok (.dup, 1) := by decide +kernel
theorem dX4_init_9 : decode cX4_init 9 = .ok (.invokespecial 9, 3) := by decide +kernel
theorem dX4_init_12 : decode cX4_init 12 = .ok (.putfield 10, 3) := by decide +kernel
theorem dX4_init_15 : decode cX4_init 15 = .ok (.aload_n 0, 1) := by decide +kernel
theorem dX4_init_16 : decode cX4_init 16 = .ok (.new 7, 3) := by decide +kernel
theorem dX4_init_19 : decode cX4_init 19 = .ok (.dup, 1) := by decide +kernel
theorem dX4_init_20 : decode cX4_init 20 = .ok (.invokespecial 9, 3) := by decide +kernel
theorem dX4_init_23 : decode cX4_init 23 = .ok (.putfield 16, 3) := by decide +kernel
theorem dX4_init_26 : decode cX4_init 26 = .ok (.aload_n 0, 1) := by decide +kernel
theorem dX4_init_27 : decode cX4_init 27 = .ok (.new 19, 3) := by decide +kernel
theorem dX4_init_30 : decode cX4_init 30 = .ok (.dup, 1) := by decide +kernel
theorem dX4_init_31 : decode cX4_init 31 = .ok (.invokespecial 21, 3) := by decide +kernel
theorem dX4_init_34 : decode cX4_init 34 = .ok (.putfield 22, 3) := by decide +kernel
theorem dX4_init_37 : decode cX4_init 37 = .ok (.aload_n 0, 1) := by decide +kernel
theorem dX4_init_38 : decode cX4_init 38 = .ok (.new 26, 3) := by decide +kernel
theorem dX4_init_41 : decode cX4_init 41 = .ok (.dup, 1) := by decide +kernel
theorem dX4_init_42 : decode cX4_init 42 = .ok (.invokespecial 28, 3) := by decide +kernel
theorem dX4_init_45 : decode cX4_init 45 = .ok (.putfield 29, 3) := by decide +kernel
theorem dX4_init_48 : decode cX4_init 48 = .ok (.return_, 1) := by decide +kernel
theorem dX4_come_0 : decode cX4_come 0 = .ok (.aload_n 0, 1) := by decide +kernel
theorem dX4_come_1 : decode cX4_come 1 = .ok (.getfield 10, 3) := by decide +kernel
theorem dX4_come_4 : decode cX4_come 4 = .ok (.invokevirtual 33, 3) := by decide +kernel
theorem dX4_come_7 : decode cX4_come 7 = .ok (.istore_n 1, 1) := by decide +kernel
theorem dX4_come_8 : decode cX4_come 8 = .ok (.iload_n 1, 1) := by decide +kernel
theorem dX4_come_9 : decode cX4_come 9 = .ok (.bipush (-6), 2) := by decide +kernel
theorem dX4_come_11 : decode cX4_come 11 = .ok (.if_icmp .ne 6, 3) := by decide +kernel
theorem dX4_come_14 : decode cX4_come 14 = .ok (.bipush (-4), 2) := by decide +kernel
theorem dX4_come_16 : decode cX4_come 16 = .ok (.ireturn, 1) := by decide +kernel
theorem dX4_come_17 : decode cX4_come 17 = .ok (.aload_n 0, 1) := by decide +kernel
theorem dX4_come_18 : decode cX4_come 18 = .ok (.getfield 22, 3) := by decide +kernel
theorem dX4_come_21 : decode cX4_come 21 = .ok (.aload_n 0, 1) := by decide +kernel
theorem dX4_come_22 : decode cX4_come 22 = .ok (.getfield 10, 3) := by decide +kernel
theorem dX4_come_25 : decode cX4_come 25 = .ok (.invokevirtual 37, 3) := by decide +kernel
theorem dX4_come_28 : decode cX4_come 28 = .ok (.aload_n 0, 1) := by decide +kernel
theorem dX4_come_29 : decode cX4_come 29 = .ok (.getfield 10, 3) := by decide +kernel
theorem dX4_come_32 : decode cX4_come 32 = .ok (.iload_n 1, 1) := by decide +kernel
theorem dX4_come_33 : decode cX4_come 33 = .ok (.invokevirtual 41, 3) := by decide +kernel
theorem dX4_come_36 : decode cX4_come 36 = .ok (.iload_n 1, 1) := by decide +kernel
theorem dX4_come_37 : decode cX4_come 37 = .ok (.ireturn, 1) := by decide +kernel
theorem dX4_go_0 : decode cX4_go 0 = .ok (.aload_n 0, 1) := by decide +kernel
theorem dX4_go_1 : decode cX4_go 1 = .ok (.getfield 10, 3) := by decide +kernel
theorem dX4_go_4 : decode cX4_go 4 = .ok (.iload_n 1, 1) := by decide +kernel
theorem dX4_go_5 : decode cX4_go 5 = .ok (.invokevirtual 45, 3) := by decide +kernel
theorem dX4_go_8 : decode cX4_go 8 = .ok (.astore_n 2, 1) := by decide +kernel
theorem dX4_go_9 : decode cX4_go 9 = .ok (.aload_n 2, 1) := by decide +kernel
theorem dX4_go_10 : decode cX4_go 10 = .ok (.ifnonnull 5, 3) := by decide +kernel
theorem dX4_go_13 : decode cX4_go 13 = .ok (.iconst (-1), 1) := by decide +kernel
theorem dX4_go_14 : decode cX4_go 14 = .ok (.ireturn, 1) := by decide +kernel
theorem dX4_go_15 : decode cX4_go 15 = .ok (.aload_n 0, 1) := by decide +kernel
theorem dX4_go_16 : decode cX4_go 16 = .ok (.getfield 22, 3) := by decide +kernel
theorem dX4_go_19 : decode cX4_go 19 = .ok (.aload_n 0, 1) := by decide +kernel
theorem dX4_go_20 : decode cX4_go 20 = .ok (.getfield 10, 3) := by decide +kernel
theorem dX4_go_23 : decode cX4_go 23 = .ok (.invokevirtual 37, 3) := by decide +kernel
theorem dX4_go_26 : decode cX4_go 26 = .ok (.aload_n 2, 1) := by decide +kernel
theorem dX4_go_27 : decode cX4_go 27 = .ok (.invokevirtual 49, 3) := by decide +kernel
theorem dX4_go_30 : decode cX4_go 30 = .ok (.aload_n 0, 1) := by decide +kernel
theorem dX4_go_31 : decode cX4_go 31 = .ok (.getfield 10, 3) := by decide +kernel
theorem dX4_go_34 : decode cX4_go 34 = .ok (.invokevirtual 54, 3) := by decide +kernel
theorem dX4_go_37 : decode cX4_go 37 = .ok (.ireturn, 1) := by decide +kernel
theorem dX4_set_0 : decode cX4_set 0 = .ok (.iload_n 1, 1) := by decide +kernel
theorem dX4_set_1 : decode cX4_set 1 = .ok (.iconst 4, 1) := by decide +kernel
theorem dX4_set_2 : decode cX4_set 2 = .ok (.invokestatic 57, 3) := by decide +kernel
theorem dX4_set_5 : decode cX4_set 5 = .ok (.ifCond .ne 5, 3) := by decide +kernel
theorem dX4_set_8 : decode cX4_set 8 = .ok (.iconst (-1), 1) := by decide +kernel
theorem dX4_set_9 : decode cX4_set 9 = .ok (.ireturn, 1) := by decide +kernel
theorem dX4_set_10 : decode cX4_set 10 = .ok (.iload_n 2, 1) := by decide +kernel
theorem dX4_set_11 : decode cX4_set 11 = .ok (.iload_n 1, 1) := by decide +kernel
theorem dX4_set_12 : decode cX4_set 12 = .ok (.invokestatic 61, 3) := by decide +kernel
theorem dX4_set_15 : decode cX4_set 15 = .ok (.if_icmp .lt 11, 3) := by decide +kernel
theorem dX4_set_18 : decode cX4_set 18 = .ok (.iload_n 2, 1) := by decide +kernel
theorem dX4_set_19 : decode cX4_set 19 = .ok (.iload_n 1, 1) := by decide +kernel
theorem dX4_set_20 : decode cX4_set 20 = .ok (.invokestatic 65, 3) := by decide +kernel
theorem dX4_set_23 : decode cX4_set 23 = .ok (.if_icmp .le 6, 3) := by decide +kernel
theorem dX4_set_26 : decode cX4_set 26 = .ok (.bipush (-2), 2) := by decide +kernel
theorem dX4_set_28 : decode cX4_set 28 = .ok (.ireturn, 1) := by decide +kernel
theorem dX4_set_29 : decode cX4_set 29 = .ok (.aload_n 0, 1) := by decide +kernel
theorem dX4_set_30 : decode cX4_set 30 = .ok (.getfield 10, 3) := by decide +kernel
theorem dX4_set_33 : decode cX4_set 33 = .ok (.iload_n 1, 1) := by decide +kernel
theorem dX4_set_34 : decode cX4_set 34 = .ok (.invokevirtual 68, 3) := by decide +kernel
theorem dX4_set_37 : decode cX4_set 37 = .ok (.istore_n 3, 1) := by decide +kernel
theorem dX4_set_38 : decode cX4_set 38 = .ok (.aload_n 0, 1) := by decide +kernel
theorem dX4_set_39 : decode cX4_set 39 = .ok (.getfield 22, 3) := by decide +kernel
theorem dX4_set_42 : decode cX4_set 42 = .ok (.aload_n 0, 1) := by decide +kernel
theorem dX4_set_43 : decode cX4_set 43 = .ok (.getfield 10, 3) := by decide +kernel
theorem dX4_set_46 : decode cX4_set 46 = .ok (.invokevirtual 37, 3) := by decide +kernel
theorem dX4_set_49 : decode cX4_set 49 = .ok (.aload_n 0, 1) := by decide +kernel
theorem dX4_set_50 : decode cX4_set 50 = .ok (.getfield 10, 3) := by decide +kernel
theorem dX4_set_53 : decode cX4_set 53 = .ok (.iload_n 1, 1) := by decide +kernel
theorem dX4_set_54 : decode cX4_set 54 = .ok (.iload_n 2, 1) := by decide +kernel
theorem dX4_set_55 : decode cX4_set 55 = .ok (.invokevirtual 71, 3) := by decide +kernel
theorem dX4_set_58 : decode cX4_set 58 = .ok (.iload_n 3, 1) := by decide +kernel
theorem dX4_set_59 : decode cX4_set 59 = .ok (.ireturn, 1) := by decide +kernel
theorem dX4_setSeed_0 : decode cX4_setSeed 0 = .ok (.iload_n 1, 1) := by decide +kernel
theorem dX4_setSeed_1 : decode cX4_setSeed 1 = .ok (.ifCond .lt 9, 3) := by decide +kernel
theorem dX4_setSeed_4 : decode cX4_setSeed 4 = .ok (.iload_n 1, 1) := by decide +kernel
theorem dX4_setSeed_5 : decode cX4_setSeed 5 = .ok (.ldc 75, 2) := by decide +kernel
theorem dX4_setSeed_7 : decode cX4_setSeed 7 = .ok (.if_icmp .le 6, 3) := by decide +kernel
theorem dX4_setSeed_10 : decode cX4_setSeed 10 = .ok (.bipush (-2), 2) := by decide +kernel
theorem dX4_setSeed_12 : decode cX4_setSeed 12 = .ok (.ireturn, 1) := by decide +kernel
theorem dX4_setSeed_13 : decode cX4_setSeed 13 = .ok (.aload_n 0, 1) := by decide +kernel
theorem dX4_setSeed_14 : decode cX4_setSeed 14 = .ok (.getfield 10, 3) := by decide +kernel
theorem dX4_setSeed_17 : decode cX4_setSeed 17 = .ok (.getfield 76, 3) := by decide +kernel
theorem dX4_setSeed_20 : decode cX4_setSeed 20 = .ok (.istore_n 2, 1) := by decide +kernel
theorem dX4_setSeed_21 : decode cX4_setSeed 21 = .ok (.aload_n 0, 1) := by decide +kernel
theorem dX4_setSeed_22 : decode cX4_setSeed 22 = .ok (.getfield 22, 3) := by decide +kernel
theorem dX4_setSeed_25 : decode cX4_setSeed 25 = .ok (.aload_n 0, 1) := by decide +kernel
theorem dX4_setSeed_26 : decode cX4_setSeed 26 = .ok (.getfield 10, 3) := by decide +kernel
theorem dX4_setSeed_29 : decode cX4_setSeed 29 = .ok (.invokevirtual 37, 3) := by decide +kernel
theorem dX4_setSeed_32 : decode cX4_setSeed 32 = .ok (.aload_n 0, 1) := by decide +kernel
theorem dX4_setSeed_33 : decode cX4_setSeed 33 = .ok (.getfield 10, 3) := by decide +kernel
theorem dX4_setSeed_36 : decode cX4_setSeed 36 = .ok (.iload_n 1, 1) := by decide +kernel
theorem dX4_setSeed_37 : decode cX4_setSeed 37 = .ok (.putfield 76, 3) := by decide +kernel
theorem dX4_setSeed_40 : decode cX4_setSeed 40 = .ok (.iload_n 2, 1) := by decide +kernel
theorem dX4_setSeed_41 : decode cX4_setSeed 41 = .ok (.ireturn, 1) := by decide +kernel
theorem dX4_teach_0 : decode cX4_teach 0 = .ok (.aload_n 0, 1) := by decide +kernel
theorem dX4_teach_1 : decode cX4_teach 1 = .ok (.getfield 10, 3) := by decide +kernel
theorem dX4_teach_4 : decode cX4_teach 4 = .ok (.iload_n 1, 1) := by decide +kernel
theorem dX4_teach_5 : decode cX4_teach 5 = .ok (.invokevirtual 45, 3) := by decide +kernel
theorem dX4_teach_8 : decode cX4_teach 8 = .ok (.astore 5, 2) := by decide +kernel
theorem dX4_teach_10 : decode cX4_teach 10 = .ok (.aload 5, 2) := by decide +kernel
theorem dX4_teach_12 : decode cX4_teach 12 = .ok (.ifnull 17, 3) := by decide +kernel
theorem dX4_teach_15 : decode cX4_teach 15 = .ok (.iload_n 2, 1) := by decide +kernel
theorem dX4_teach_16 : decode cX4_teach 16 = .ok (.invokestatic 80, 3) := by decide +kernel
theorem dX4_teach_19 : decode cX4_teach 19 = .ok (.ifCond .eq 10, 3) := by decide +kernel
theorem dX4_teach_22 : decode cX4_teach 22 = .ok (.iload_n 3, 1) := by decide +kernel
theorem dX4_teach_23 : decode cX4_teach 23 = .ok (.invokestatic 84, 3) := by decide +kernel
theorem dX4_teach_26 : decode cX4_teach 26 = .ok (.ifCond .ne 5, 3) := by decide +kernel
theorem dX4_teach_29 : decode cX4_teach 29 = .ok (.iconst (-1), 1) := by decide +kernel
theorem dX4_teach_30 : decode cX4_teach 30 = .ok (.ireturn, 1) := by decide +kernel
theorem dX4_teach_31 : decode cX4_teach 31 = .ok (.iload 4, 2) := by decide +kernel
theorem dX4_teach_33 : decode cX4_teach 33 = .ok (.ifCond .lt 10, 3) := by decide +kernel
theorem dX4_teach_36 : decode cX4_teach 36 = .ok (.iload 4, 2) := by decide +kernel
theorem dX4_teach_38 : decode cX4_teach 38 = .ok (.bipush 99, 2) := by decide +kernel
theorem dX4_teach_40 : decode cX4_teach 40 = .ok (.if_icmp .le 6, 3) := by decide +kernel
theorem dX4_teach_43 : decode cX4_teach 43 = .ok (.bipush (-2), 2) := by decide +kernel
theorem dX4_teach_45 : decode cX4_teach 45 = .ok (.ireturn, 1) := by decide +kernel
theorem dX4_teach_46 : decode cX4_teach 46 = .ok (.aload 5, 2) := by decide +kernel
theorem dX4_teach_48 : decode cX4_teach 48 = .ok (.iload_n 2, 1) := by decide +kernel
theorem dX4_teach_49 : decode cX4_teach 49 = .ok (.iload_n 3, 1) := by decide +kernel
theorem dX4_teach_50 : decode cX4_teach 50 = .ok (.invokevirtual 87, 3) := by decide +kernel
theorem dX4_teach_53 : decode cX4_teach 53 = .ok (.istore 6, 2) := by decide +kernel
theorem dX4_teach_55 : decode cX4_teach 55 = .ok (.aload_n 0, 1) := by decide +kernel
theorem dX4_teach_56 : decode cX4_teach 56 = .ok (.getfield 22, 3) := by decide +kernel
theorem dX4_teach_59 : decode cX4_teach 59 = .ok (.aload_n 0, 1) := by decide +kernel
theorem dX4_teach_60 : decode cX4_teach 60 = .ok (.getfield 10, 3) := by decide +kernel
theorem dX4_teach_63 : decode cX4_teach 63 = .ok (.invokevirtual 37, 3) := by decide +kernel
theorem dX4_teach_66 : decode cX4_teach 66 = .ok (.aload 5, 2) := by decide +kernel
theorem dX4_teach_68 : decode cX4_teach 68 = .ok (.iload_n 2, 1) := by decide +kernel
theorem dX4_teach_69 : decode cX4_teach 69 = .ok (.iload_n 3, 1) := by decide +kernel
theorem dX4_teach_70 : decode cX4_teach 70 = .ok (.iload 4, 2) := by decide +kernel
theorem dX4_teach_72 : decode cX4_teach 72 = .ok (.invokevirtual 91, 3) := by decide +kernel
theorem dX4_teach_75 : decode cX4_teach 75 = .ok (.iload 6, 2) := by decide +kernel
theorem dX4_teach_77 : decode cX4_teach 77 = .ok (.ireturn, 1) := by decide +kernel
theorem dX4_setAge_0 : decode cX4_setAge 0 = .ok (.aload_n 0, 1) := by decide +kernel
theorem dX4_setAge_1 : decode cX4_setAge 1 = .ok (.getfield 10, 3) := by decide +kernel
theorem dX4_setAge_4 : decode cX4_setAge 4 = .ok (.iload_n 1, 1) := by decide +kernel
theorem dX4_setAge_5 : decode cX4_setAge 5 = .ok (.invokevirtual 45, 3) := by decide +kernel
theorem dX4_setAge_8 : decode cX4_setAge 8 = .ok (.astore_n 3, 1) := by decide +kernel
theorem dX4_setAge_9 : decode cX4_setAge 9 = .ok (.aload_n 3, 1) := by decide +kernel
theorem dX4_setAge_10 : decode cX4_setAge 10 = .ok (.ifnonnull 5, 3) := by decide +kernel
theorem dX4_setAge_13 : decode cX4_setAge 13 = .ok (.iconst (-1), 1) := by decide +kernel
theorem dX4_setAge_14 : decode cX4_setAge 14 = .ok (.ireturn, 1) := by decide +kernel
theorem dX4_setAge_15 : decode cX4_setAge 15 = .ok (.iload_n 2, 1) := by decide +kernel
theorem dX4_setAge_16 : decode cX4_setAge 16 = .ok (.ifCond .lt 9, 3) := by decide +kernel
theorem dX4_setAge_19 : decode cX4_setAge 19 = .ok (.iload_n 2, 1) := by decide +kernel
theorem dX4_setAge_20 : decode cX4_setAge 20 = .ok (.bipush 99, 2) := by decide +kernel
theorem dX4_setAge_22 : decode cX4_setAge 22 = .ok (.if_icmp .le 6, 3) := by decide +kernel
theorem dX4_setAge_25 : decode cX4_setAge 25 = .ok (.bipush (-2), 2) := by decide +kernel
theorem dX4_setAge_27 : decode cX4_setAge 27 = .ok (.ireturn, 1) := by decide +kernel
theorem dX4_setAge_28 : decode cX4_setAge 28 = .ok (.aload_n 3, 1) := by decide +kernel
theorem dX4_setAge_29 : decode cX4_setAge 29 = .ok (.getfield 95, 3) := by decide +kernel
theorem dX4_setAge_32 : decode cX4_setAge 32 = .ok (.istore 4, 2) := by decide +kernel
theorem dX4_setAge_34 : decode cX4_setAge 34 = .ok (.aload_n 0, 1) := by decide +kernel
theorem dX4_setAge_35 : decode cX4_setAge 35 = .ok (.getfield 22, 3) := by decide +kernel
theorem dX4_setAge_38 : decode cX4_setAge 38 = .ok (.aload_n 0, 1) := by decide +kernel
theorem dX4_setAge_39 : decode cX4_setAge 39 = .ok (.getfield 10, 3) := by decide +kernel
theorem dX4_setAge_42 : decode cX4_setAge 42 = .ok (.invokevirtual 37, 3) := by decide +kernel
theorem dX4_setAge_45 : decode cX4_setAge 45 = .ok (.aload_n 3, 1) := by decide +kernel
theorem dX4_setAge_46 : decode cX4_setAge 46 = .ok (.iload_n 2, 1) := by decide +kernel
theorem dX4_setAge_47 : decode cX4_setAge 47 = .ok (.putfield 95, 3) := by decide +kernel
theorem dX4_setAge_50 : decode cX4_setAge 50 = .ok (.iload 4, 2) := by decide +kernel
theorem dX4_setAge_52 : decode cX4_setAge 52 = .ok (.ireturn, 1) := by decide +kernel
theorem dX4_meet_0 : decode cX4_meet 0 = .ok (.aload_n 0, 1) := by decide +kernel
theorem dX4_meet_1 : decode cX4_meet 1 = .ok (.getfield 10, 3) := by decide +kernel
theorem dX4_meet_4 : decode cX4_meet 4 = .ok (.iload_n 1, 1) := by decide +kernel
theorem dX4_meet_5 : decode cX4_meet 5 = .ok (.invokevirtual 45, 3) := by decide +kernel
theorem dX4_meet_8 : decode cX4_meet 8 = .ok (.astore 4, 2) := by decide +kernel
theorem dX4_meet_10 : decode cX4_meet 10 = .ok (.aload_n 0, 1) := by decide +kernel
theorem dX4_meet_11 : decode cX4_meet 11 = .ok (.getfield 10, 3) := by decide +kernel
theorem dX4_meet_14 : decode cX4_meet 14 = .ok (.iload_n 2, 1) := by decide +kernel
theorem dX4_meet_15 : decode cX4_meet 15 = .ok (.invokevirtual 45, 3) := by decide +kernel
theorem dX4_meet_18 : decode cX4_meet 18 = .ok (.astore 5, 2) := by decide +kernel
theorem dX4_meet_20 : decode cX4_meet 20 = .ok (.aload 4, 2) := by decide +kernel
theorem dX4_meet_22 : decode cX4_meet 22 = .ok (.ifnull 15, 3) := by decide +kernel
theorem dX4_meet_25 : decode cX4_meet 25 = .ok (.aload 5, 2) := by decide +kernel
theorem dX4_meet_27 : decode cX4_meet 27 = .ok (.ifnull 10, 3) := by decide +kernel
theorem dX4_meet_30 : decode cX4_meet 30 = .ok (.iload_n 3, 1) := by decide +kernel
theorem dX4_meet_31 : decode cX4_meet 31 = .ok (.invokestatic 80, 3) := by decide +kernel
theorem dX4_meet_34 : decode cX4_meet 34 = .ok (.ifCond .ne 5, 3) := by decide +kernel
theorem dX4_meet_37 : decode cX4_meet 37 = .ok (.iconst (-1), 1) := by decide +kernel
theorem dX4_meet_38 : decode cX4_meet 38 = .ok (.ireturn, 1) := by decide +kernel
theorem dX4_meet_39 : decode cX4_meet 39 = .ok (.iload_n 1, 1) := by decide +kernel
theorem dX4_meet_40 : decode cX4_meet 40 = .ok (.iload_n 2, 1) := by decide +kernel
theorem dX4_meet_41 : decode cX4_meet 41 = .ok (.if_icmp .ne 6, 3) := by decide +kernel
theorem dX4_meet_44 : decode cX4_meet 44 = .ok (.bipush (-3), 2) := by decide +kernel
theorem dX4_meet_46 : decode cX4_meet 46 = .ok (.ireturn, 1) := by decide +kernel
theorem dX4_meet_47 : decode cX4_meet 47 = .ok (.aload_n 0, 1) := by decide +kernel
theorem dX4_meet_48 : decode cX4_meet 48 = .ok (.getfield 22, 3) := by decide +kernel
theorem dX4_meet_51 : decode cX4_meet 51 = .ok (.aload_n 0, 1) := by decide +kernel
theorem dX4_meet_52 : decode cX4_meet 52 = .ok (.getfield 10, 3) := by decide +kernel
theorem dX4_meet_55 : decode cX4_meet 55 = .ok (.invokevirtual 37, 3) := by decide +kernel
theorem dX4_meet_58 : decode cX4_meet 58 = .ok (.aload_n 0, 1) := by decide +kernel
theorem dX4_meet_59 : decode cX4_meet 59 = .ok (.getfield 10, 3) := by decide +kernel
theorem dX4_meet_62 : decode cX4_meet 62 = .ok (.aload 4, 2) := by decide +kernel
theorem dX4_meet_64 : decode cX4_meet 64 = .ok (.aload 5, 2) := by decide +kernel
theorem dX4_meet_66 : decode cX4_meet 66 = .ok (.iload_n 3, 1) := by decide +kernel
theorem dX4_meet_67 : decode cX4_meet 67 = .ok (.invokevirtual 98, 3) := by decide +kernel
theorem dX4_meet_70 : decode cX4_meet 70 = .ok (.ireturn, 1) := by decide +kernel
theorem dX4_chat_0 : decode cX4_chat 0 = .ok (.aload_n 0, 1) := by decide +kernel
theorem dX4_chat_1 : decode cX4_chat 1 = .ok (.iload_n 1, 1) := by decide +kernel
theorem dX4_chat_2 : decode cX4_chat 2 = .ok (.invokevirtual 102, 3) := by decide +kernel
theorem dX4_chat_5 : decode cX4_chat 5 = .ok (.istore_n 2, 1) := by decide +kernel
theorem dX4_chat_6 : decode cX4_chat 6 = .ok (.iload_n 2, 1) := by decide +kernel
theorem dX4_chat_7 : decode cX4_chat 7 = .ok (.ifCond .eq 5, 3) := by decide +kernel
theorem dX4_chat_10 : decode cX4_chat 10 = .ok (.iload_n 2, 1) := by decide +kernel
theorem dX4_chat_11 : decode cX4_chat 11 = .ok (.ireturn, 1) := by decide +kernel
theorem dX4_chat_12 : decode cX4_chat 12 = .ok (.aload_n 0, 1) := by decide +kernel
theorem dX4_chat_13 : decode cX4_chat 13 = .ok (.getfield 22, 3) := by decide +kernel
theorem dX4_chat_16 : decode cX4_chat 16 = .ok (.aload_n 0, 1) := by decide +kernel
theorem dX4_chat_17 : decode cX4_chat 17 = .ok (.getfield 10, 3) := by decide +kernel
theorem dX4_chat_20 : decode cX4_chat 20 = .ok (.invokevirtual 37, 3) := by decide +kernel
theorem dX4_chat_23 : decode cX4_chat 23 = .ok (.aload_n 0, 1) := by decide +kernel
theorem dX4_chat_24 : decode cX4_chat 24 = .ok (.getfield 10, 3) := by decide +kernel
theorem dX4_chat_27 : decode cX4_chat 27 = .ok (.iload_n 1, 1) := by decide +kernel
theorem dX4_chat_28 : decode cX4_chat 28 = .ok (.invokevirtual 105, 3) := by decide +kernel
theorem dX4_chat_31 : decode cX4_chat 31 = .ok (.ireturn, 1) := by decide +kernel
theorem dX4_age_0 : decode cX4_age 0 = .ok (.iload_n 1, 1) := by decide +kernel
theorem dX4_age_1 : decode cX4_age 1 = .ok (.iconst 1, 1) := by decide +kernel
theorem dX4_age_2 : decode cX4_age 2 = .ok (.if_icmp .lt 9, 3) := by decide +kernel
theorem dX4_age_5 : decode cX4_age 5 = .ok (.iload_n 1, 1) := by decide +kernel
theorem dX4_age_6 : decode cX4_age 6 = .ok (.bipush 99, 2) := by decide +kernel
theorem dX4_age_8 : decode cX4_age 8 = .ok (.if_icmp .le 6, 3) := by decide +kernel
theorem dX4_age_11 : decode cX4_age 11 = .ok (.bipush (-2), 2) := by decide +kernel
theorem dX4_age_13 : decode cX4_age 13 = .ok (.ireturn, 1) := by decide +kernel
theorem dX4_age_14 : decode cX4_age 14 = .ok (.aload_n 0, 1) := by decide +kernel
theorem dX4_age_15 : decode cX4_age 15 = .ok (.getfield 22, 3) := by decide +kernel
theorem dX4_age_18 : decode cX4_age 18 = .ok (.aload_n 0, 1) := by decide +kernel
theorem dX4_age_19 : decode cX4_age 19 = .ok (.getfield 10, 3) := by decide +kernel
theorem dX4_age_22 : decode cX4_age 22 = .ok (.invokevirtual 37, 3) := by decide +kernel
theorem dX4_age_25 : decode cX4_age 25 = .ok (.aload_n 0, 1) := by decide +kernel
theorem dX4_age_26 : decode cX4_age 26 = .ok (.getfield 10, 3) := by decide +kernel
theorem dX4_age_29 : decode cX4_age 29 = .ok (.iload_n 1, 1) := by decide +kernel
theorem dX4_age_30 : decode cX4_age 30 = .ok (.invokevirtual 108, 3) := by decide +kernel
theorem dX4_age_33 : decode cX4_age 33 = .ok (.ireturn, 1) := by decide +kernel
theorem dX4_count_0 : decode cX4_count 0 = .ok (.iload_n 1, 1) := by decide +kernel
theorem dX4_count_1 : decode cX4_count 1 = .ok (.bipush 7, 2) := by decide +kernel
theorem dX4_count_3 : decode cX4_count 3 = .ok (.invokestatic 57, 3) := by decide +kernel
theorem dX4_count_6 : decode cX4_count 6 = .ok (.ifCond .eq 14, 3) := by decide +kernel
theorem dX4_count_9 : decode cX4_count 9 = .ok (.aload_n 0, 1) := by decide +kernel
theorem dX4_count_10 : decode cX4_count 10 = .ok (.getfield 10, 3) := by decide +kernel
theorem dX4_count_13 : decode cX4_count 13 = .ok (.iload_n 1, 1) := by decide +kernel
theorem dX4_count_14 : decode cX4_count 14 = .ok (.invokevirtual 111, 3) := by decide +kernel
theorem dX4_count_17 : decode cX4_count 17 = .ok (.goto 5, 3) := by decide +kernel
theorem dX4_count_20 : decode cX4_count 20 = .ok (.bipush (-2), 2) := by decide +kernel
theorem dX4_count_22 : decode cX4_count 22 = .ok (.ireturn, 1) := by decide +kernel
theorem dX4_setting_0 : decode cX4_setting 0 = .ok (.iload_n 1, 1) := by decide +kernel
theorem dX4_setting_1 : decode cX4_setting 1 = .ok (.iconst 4, 1) := by decide +kernel
theorem dX4_setting_2 : decode cX4_setting 2 = .ok (.invokestatic 57, 3) := by decide +kernel
theorem dX4_setting_5 : decode cX4_setting 5 = .ok (.ifCond .eq 14, 3) := by decide +kernel
theorem dX4_setting_8 : decode cX4_setting 8 = .ok (.aload_n 0, 1) := by decide +kernel
theorem dX4_setting_9 : decode cX4_setting 9 = .ok (.getfield 10, 3) := by decide +kernel
theorem dX4_setting_12 : decode cX4_setting 12 = .ok (.iload_n 1, 1) := by decide +kernel
theorem dX4_setting_13 : decode cX4_setting 13 = .ok (.invokevirtual 68, 3) := by decide +kernel
theorem dX4_setting_16 : decode cX4_setting 16 = .ok (.goto 4, 3) := by decide +kernel
theorem dX4_setting_19 : decode cX4_setting 19 = .ok (.iconst (-1), 1) := by decide +kernel
theorem dX4_setting_20 : decode cX4_setting 20 = .ok (.ireturn, 1) := by decide +kernel
theorem dX4_weight_0 : decode cX4_weight 0 = .ok (.aload_n 0, 1) := by decide +kernel
theorem dX4_weight_1 : decode cX4_weight 1 = .ok (.getfield 10, 3) := by decide +kernel
theorem dX4_weight_4 : decode cX4_weight 4 = .ok (.iload_n 1, 1) := by decide +kernel
theorem dX4_weight_5 : decode cX4_weight 5 = .ok (.invokevirtual 45, 3) := by decide +kernel
theorem dX4_weight_8 : decode cX4_weight 8 = .ok (.astore 4, 2) := by decide +kernel
theorem dX4_weight_10 : decode cX4_weight 10 = .ok (.aload 4, 2) := by decide +kernel
theorem dX4_weight_12 : decode cX4_weight 12 = .ok (.ifnull 17, 3) := by decide +kernel
theorem dX4_weight_15 : decode cX4_weight 15 = .ok (.iload_n 2, 1) := by decide +kernel
theorem dX4_weight_16 : decode cX4_weight 16 = .ok (.invokestatic 80, 3) := by decide +kernel
theorem dX4_weight_19 : decode cX4_weight 19 = .ok (.ifCond .eq 10, 3) := by decide +kernel
theorem dX4_weight_22 : decode cX4_weight 22 = .ok (.iload_n 3, 1) := by decide +kernel
theorem dX4_weight_23 : decode cX4_weight 23 = .ok (.invokestatic 84, 3) := by decide +kernel
theorem dX4_weight_26 : decode cX4_weight 26 = .ok (.ifCond .ne 5, 3) := by decide +kernel
theorem dX4_weight_29 : decode cX4_weight 29 = .ok (.iconst (-1), 1) := by decide +kernel
theorem dX4_weight_30 : decode cX4_weight 30 = .ok (.ireturn, 1) := by decide +kernel
theorem dX4_weight_31 : decode cX4_weight 31 = .ok (.aload 4, 2) := by decide +kernel
theorem dX4_weight_33 : decode cX4_weight 33 = .ok (.iload_n 2, 1) := by decide +kernel
theorem dX4_weight_34 : decode cX4_weight 34 = .ok (.iload_n 3, 1) := by decide +kernel
theorem dX4_weight_35 : decode cX4_weight 35 = .ok (.invokevirtual 87, 3) := by decide +kernel
theorem dX4_weight_38 : decode cX4_weight 38 = .ok (.ireturn, 1) := by decide +kernel
theorem dX4_speaker_0 : decode cX4_speaker 0 = .ok (.aload_n 0, 1) := by decide +kernel
theorem dX4_speaker_1 : decode cX4_speaker 1 = .ok (.getfield 10, 3) := by decide +kernel
theorem dX4_speaker_4 : decode cX4_speaker 4 = .ok (.iload_n 1, 1) := by decide +kernel
theorem dX4_speaker_5 : decode cX4_speaker 5 = .ok (.invokevirtual 45, 3) := by decide +kernel
theorem dX4_speaker_8 : decode cX4_speaker 8 = .ok (.astore_n 3, 1) := by decide +kernel
theorem dX4_speaker_9 : decode cX4_speaker 9 = .ok (.aload_n 3, 1) := by decide +kernel
theorem dX4_speaker_10 : decode cX4_speaker 10 = .ok (.ifnonnull 5, 3) := by decide +kernel
theorem dX4_speaker_13 : decode cX4_speaker 13 = .ok (.iconst (-1), 1) := by decide +kernel
theorem dX4_speaker_14 : decode cX4_speaker 14 = .ok (.ireturn, 1) := by decide +kernel
theorem dX4_speaker_15 : decode cX4_speaker 15 = .ok (.iload_n 2, 1) := by decide +kernel
theorem dX4_speaker_16 : decode cX4_speaker 16 = .ok (.iconst 5, 1) := by decide +kernel
theorem dX4_speaker_17 : decode cX4_speaker 17 = .ok (.invokestatic 57, 3) := by decide +kernel
theorem dX4_speaker_20 : decode cX4_speaker 20 = .ok (.ifCond .eq 15, 3) := by decide +kernel
theorem dX4_speaker_23 : decode cX4_speaker 23 = .ok (.aload_n 0, 1) := by decide +kernel
theorem dX4_speaker_24 : decode cX4_speaker 24 = .ok (.getfield 10, 3) := by decide +kernel
theorem dX4_speaker_27 : decode cX4_speaker 27 = .ok (.aload_n 3, 1) := by decide +kernel
theorem dX4_speaker_28 : decode cX4_speaker 28 = .ok (.iload_n 2, 1) := by decide +kernel
theorem dX4_speaker_29 : decode cX4_speaker 29 = .ok (.invokevirtual 114, 3) := by decide +kernel
theorem dX4_speaker_32 : decode cX4_speaker 32 = .ok (.goto 5, 3) := by decide +kernel
theorem dX4_speaker_35 : decode cX4_speaker 35 = .ok (.bipush (-2), 2) := by decide +kernel
theorem dX4_speaker_37 : decode cX4_speaker 37 = .ok (.ireturn, 1) := by decide +kernel
theorem dX4_wordOf_0 : decode cX4_wordOf 0 = .ok (.aload_n 0, 1) := by decide +kernel
theorem dX4_wordOf_1 : decode cX4_wordOf 1 = .ok (.getfield 10, 3) := by decide +kernel
theorem dX4_wordOf_4 : decode cX4_wordOf 4 = .ok (.iload_n 1, 1) := by decide +kernel
theorem dX4_wordOf_5 : decode cX4_wordOf 5 = .ok (.invokevirtual 45, 3) := by decide +kernel
theorem dX4_wordOf_8 : decode cX4_wordOf 8 = .ok (.astore_n 3, 1) := by decide +kernel
theorem dX4_wordOf_9 : decode cX4_wordOf 9 = .ok (.aload_n 3, 1) := by decide +kernel
theorem dX4_wordOf_10 : decode cX4_wordOf 10 = .ok (.ifnull 10, 3) := by decide +kernel
theorem dX4_wordOf_13 : decode cX4_wordOf 13 = .ok (.iload_n 2, 1) := by decide +kernel
theorem dX4_wordOf_14 : decode cX4_wordOf 14 = .ok (.invokestatic 80, 3) := by decide +kernel
theorem dX4_wordOf_17 : decode cX4_wordOf 17 = .ok (.ifCond .ne 5, 3) := by decide +kernel
theorem dX4_wordOf_20 : decode cX4_wordOf 20 = .ok (.iconst (-1), 1) := by decide +kernel
theorem dX4_wordOf_21 : decode cX4_wordOf 21 = .ok (.ireturn, 1) := by decide +kernel
theorem dX4_wordOf_22 : decode cX4_wordOf 22 = .ok (.aload_n 3, 1) := by decide +kernel
theorem dX4_wordOf_23 : decode cX4_wordOf 23 = .ok (.iload_n 2, 1) := by decide +kernel
theorem dX4_wordOf_24 : decode cX4_wordOf 24 = .ok (.invokevirtual 118, 3) := by decide +kernel
theorem dX4_wordOf_27 : decode cX4_wordOf 27 = .ok (.ireturn, 1) := by decide +kernel
theorem dX4_hears_0 : decode cX4_hears 0 = .ok (.aload_n 0, 1) := by decide +kernel
theorem dX4_hears_1 : decode cX4_hears 1 = .ok (.getfield 10, 3) := by decide +kernel
theorem dX4_hears_4 : decode cX4_hears 4 = .ok (.iload_n 1, 1) := by decide +kernel
theorem dX4_hears_5 : decode cX4_hears 5 = .ok (.invokevirtual 45, 3) := by decide +kernel
theorem dX4_hears_8 : decode cX4_hears 8 = .ok (.astore_n 3, 1) := by decide +kernel
theorem dX4_hears_9 : decode cX4_hears 9 = .ok (.aload_n 3, 1) := by decide +kernel
theorem dX4_hears_10 : decode cX4_hears 10 = .ok (.ifnull 10, 3) := by decide +kernel
theorem dX4_hears_13 : decode cX4_hears 13 = .ok (.iload_n 2, 1) := by decide +kernel
theorem dX4_hears_14 : decode cX4_hears 14 = .ok (.invokestatic 84, 3) := by decide +kernel
theorem dX4_hears_17 : decode cX4_hears 17 = .ok (.ifCond .ne 5, 3) := by decide +kernel
theorem dX4_hears_20 : decode cX4_hears 20 = .ok (.iconst (-1), 1) := by decide +kernel
theorem dX4_hears_21 : decode cX4_hears 21 = .ok (.ireturn, 1) := by decide +kernel
theorem dX4_hears_22 : decode cX4_hears 22 = .ok (.aload_n 3, 1) := by decide +kernel
theorem dX4_hears_23 : decode cX4_hears 23 = .ok (.iload_n 2, 1) := by decide +kernel
theorem dX4_hears_24 : decode cX4_hears 24 = .ok (.invokevirtual 121, 3) := by decide +kernel
theorem dX4_hears_27 : decode cX4_hears 27 = .ok (.ireturn, 1) := by decide +kernel
theorem dX4_gesture_0 : decode cX4_gesture 0 = .ok (.iload_n 1, 1) := by decide +kernel
theorem dX4_gesture_1 : decode cX4_gesture 1 = .ok (.invokestatic 84, 3) := by decide +kernel
theorem dX4_gesture_4 : decode cX4_gesture 4 = .ok (.ifCond .ne 5, 3) := by decide +kernel
theorem dX4_gesture_7 : decode cX4_gesture 7 = .ok (.iconst (-1), 1) := by decide +kernel
theorem dX4_gesture_8 : decode cX4_gesture 8 = .ok (.ireturn, 1) := by decide +kernel
theorem dX4_gesture_9 : decode cX4_gesture 9 = .ok (.iload_n 1, 1) := by decide +kernel
theorem dX4_gesture_10 : decode cX4_gesture 10 = .ok (.invokestatic 124, 3) := by decide +kernel
theorem dX4_gesture_13 : decode cX4_gesture 13 = .ok (.istore_n 3, 1) := by decide +kernel
theorem dX4_gesture_14 : decode cX4_gesture 14 = .ok (.iload_n 2, 1) := by decide +kernel
theorem dX4_gesture_15 : decode cX4_gesture 15 = .ok (.iload_n 3, 1) := by decide +kernel
theorem dX4_gesture_16 : decode cX4_gesture 16 = .ok (.invokestatic 57, 3) := by decide +kernel
theorem dX4_gesture_19 : decode cX4_gesture 19 = .ok (.ifCond .ne 6, 3) := by decide +kernel
theorem dX4_gesture_22 : decode cX4_gesture 22 = .ok (.bipush (-6), 2) := by decide +kernel
theorem dX4_gesture_24 : decode cX4_gesture 24 = .ok (.ireturn, 1) := by decide +kernel
theorem dX4_gesture_25 : decode cX4_gesture 25 = .ok (.iload_n 1, 1) := by decide +kernel
theorem dX4_gesture_26 : decode cX4_gesture 26 = .ok (.invokestatic 127, 3) := by decide +kernel
theorem dX4_gesture_29 : decode cX4_gesture 29 = .ok (.iload_n 3, 1) := by decide +kernel
theorem dX4_gesture_30 : decode cX4_gesture 30 = .ok (.iconst 1, 1) := by decide +kernel
theorem dX4_gesture_31 : decode cX4_gesture 31 = .ok (.isub, 1) := by decide +kernel
theorem dX4_gesture_32 : decode cX4_gesture 32 = .ok (.iload_n 2, 1) := by decide +kernel
theorem dX4_gesture_33 : decode cX4_gesture 33 = .ok (.isub, 1) := by decide +kernel
theorem dX4_gesture_34 : decode cX4_gesture 34 = .ok (.ishr, 1) := by decide +kernel
theorem dX4_gesture_35 : decode cX4_gesture 35 = .ok (.iconst 1, 1) := by decide +kernel
theorem dX4_gesture_36 : decode cX4_gesture 36 = .ok (.iand, 1) := by decide +kernel
theorem dX4_gesture_37 : decode cX4_gesture 37 = .ok (.istore 4, 2) := by decide +kernel
theorem dX4_gesture_39 : decode cX4_gesture 39 = .ok (.iload 4, 2) := by decide +kernel
theorem dX4_gesture_41 : decode cX4_gesture 41 = .ok (.ifCond .ne 8, 3) := by decide +kernel
theorem dX4_gesture_44 : decode cX4_gesture 44 = .ok (.bipush 119, 2) := by decide +kernel
theorem dX4_gesture_46 : decode cX4_gesture 46 = .ok (.goto 5, 3) := by decide +kernel
theorem dX4_gesture_49 : decode cX4_gesture 49 = .ok (.bipush 110, 2) := by decide +kernel
theorem dX4_gesture_51 : decode cX4_gesture 51 = .ok (.ireturn, 1) := by decide +kernel
theorem dX4_agreement_0 : decode cX4_agreement 0 = .ok (.aload_n 0, 1) := by decide +kernel
theorem dX4_agreement_1 : decode cX4_agreement 1 = .ok (.getfield 10, 3) := by decide +kernel
theorem dX4_agreement_4 : decode cX4_agreement 4 = .ok (.iload_n 1, 1) := by decide +kernel
theorem dX4_agreement_5 : decode cX4_agreement 5 = .ok (.invokevirtual 45, 3) := by decide +kernel
theorem dX4_agreement_8 : decode cX4_agreement 8 = .ok (.astore 4, 2) := by decide +kernel
theorem dX4_agreement_10 : decode cX4_agreement 10 = .ok (.aload_n 0, 1) := by decide +kernel
theorem dX4_agreement_11 : decode cX4_agreement 11 = .ok (.getfield 10, 3) := by decide +kernel
theorem dX4_agreement_14 : decode cX4_agreement 14 = .ok (.iload_n 2, 1) := by decide +kernel
theorem dX4_agreement_15 : decode cX4_agreement 15 = .ok (.invokevirtual 45, 3) := by decide +kernel
theorem dX4_agreement_18 : decode cX4_agreement 18 = .ok (.astore 5, 2) := by decide +kernel
theorem dX4_agreement_20 : decode cX4_agreement 20 = .ok (.aload 4, 2) := by decide +kernel
theorem dX4_agreement_22 : decode cX4_agreement 22 = .ok (.ifnull 8, 3) := by decide +kernel
theorem dX4_agreement_25 : decode cX4_agreement 25 = .ok (.aload 5, 2) := by decide +kernel
theorem dX4_agreement_27 : decode cX4_agreement 27 = .ok (.ifnonnull 5, 3) := by decide +kernel
theorem dX4_agreement_30 : decode cX4_agreement 30 = .ok (.iconst (-1), 1) := by decide +kernel
theorem dX4_agreement_31 : decode cX4_agreement 31 = .ok (.ireturn, 1) := by decide +kernel
theorem dX4_agreement_32 : decode cX4_agreement 32 = .ok (.iload_n 3, 1) := by decide +kernel
theorem dX4_agreement_33 : decode cX4_agreement 33 = .ok (.ifCond .ne 11, 3) := by decide +kernel
theorem dX4_agreement_36 : decode cX4_agreement 36 = .ok (.aload 4, 2) := by decide +kernel
theorem dX4_agreement_38 : decode cX4_agreement 38 = .ok (.aload 5, 2) := by decide +kernel
theorem dX4_agreement_40 : decode cX4_agreement 40 = .ok (.invokestatic 130, 3) := by decide +kernel
theorem dX4_agreement_43 : decode cX4_agreement 43 = .ok (.ireturn, 1) := by decide +kernel
theorem dX4_agreement_44 : decode cX4_agreement 44 = .ok (.iload_n 3, 1) := by decide +kernel
theorem dX4_agreement_45 : decode cX4_agreement 45 = .ok (.iconst 1, 1) := by decide +kernel
theorem dX4_agreement_46 : decode cX4_agreement 46 = .ok (.if_icmp .ne 13, 3) := by decide +kernel
theorem dX4_agreement_49 : decode cX4_agreement 49 = .ok (.aload 4, 2) := by decide +kernel
theorem dX4_agreement_51 : decode cX4_agreement 51 = .ok (.aload 5, 2) := by decide +kernel
theorem dX4_agreement_53 : decode cX4_agreement 53 = .ok (.invokestatic 134, 3) := by decide +kernel
theorem dX4_agreement_56 : decode cX4_agreement 56 = .ok (.goto 5, 3) := by decide +kernel
theorem dX4_agreement_59 : decode cX4_agreement 59 = .ok (.bipush (-2), 2) := by decide +kernel
theorem dX4_agreement_61 : decode cX4_agreement 61 = .ok (.ireturn, 1) := by decide +kernel
theorem dX4_understanding_0 : decode cX4_understanding 0 = .ok (.aload_n 0, 1) := by decide +kernel
theorem dX4_understanding_1 : decode cX4_understanding 1 = .ok (.getfield 10, 3) := by decide +kernel
theorem dX4_understanding_4 : decode cX4_understanding 4 = .ok (.iload_n 1, 1) := by decide +kernel
theorem dX4_understanding_5 : decode cX4_understanding 5 = .ok (.invokevirtual 45, 3) := by decide +kernel
theorem dX4_understanding_8 : decode cX4_understanding 8 = .ok (.astore_n 3, 1) := by decide +kernel
theorem dX4_understanding_9 : decode cX4_understanding 9 = .ok (.aload_n 0, 1) := by decide +kernel
theorem dX4_understanding_10 : decode cX4_understanding 10 = .ok (.getfield 10, 3) := by decide +kernel
theorem dX4_understanding_13 : decode cX4_understanding 13 = .ok (.iload_n 2, 1) := by decide +kernel
theorem dX4_understanding_14 : decode cX4_understanding 14 = .ok (.invokevirtual 45, 3) := by decide +kernel
theorem dX4_understanding_17 : decode cX4_understanding 17 = .ok (.astore 4, 2) := by decide +kernel
theorem dX4_understanding_19 : decode cX4_understanding 19 = .ok (.aload_n 3, 1) := by decide +kernel
theorem dX4_understanding_20 : decode cX4_understanding 20 = .ok (.ifnull 8, 3) := by decide +kernel
theorem dX4_understanding_23 : decode cX4_understanding 23 = .ok (.aload 4, 2) := by decide +kernel
theorem dX4_understanding_25 : decode cX4_understanding 25 = .ok (.ifnonnull 5, 3) := by decide +kernel
theorem dX4_understanding_28 : decode cX4_understanding 28 = .ok (.iconst (-1), 1) := by decide +kernel
theorem dX4_understanding_29 : decode cX4_understanding 29 = .ok (.ireturn, 1) := by decide +kernel
theorem dX4_understanding_30 : decode cX4_understanding 30 = .ok (.aload_n 3, 1) := by decide +kernel
theorem dX4_understanding_31 : decode cX4_understanding 31 = .ok (.aload 4, 2) := by decide +kernel
theorem dX4_understanding_33 : decode cX4_understanding 33 = .ok (.invokestatic 137, 3) := by decide +kernel
theorem dX4_understanding_36 : decode cX4_understanding 36 = .ok (.ireturn, 1) := by decide +kernel
theorem dX4_common_0 : decode cX4_common 0 = .ok (.iload_n 1, 1) := by decide +kernel
theorem dX4_common_1 : decode cX4_common 1 = .ok (.invokestatic 80, 3) := by decide +kernel
theorem dX4_common_4 : decode cX4_common 4 = .ok (.ifCond .eq 14, 3) := by decide +kernel
theorem dX4_common_7 : decode cX4_common 7 = .ok (.aload_n 0, 1) := by decide +kernel
theorem dX4_common_8 : decode cX4_common 8 = .ok (.getfield 10, 3) := by decide +kernel
theorem dX4_common_11 : decode cX4_common 11 = .ok (.iload_n 1, 1) := by decide +kernel
theorem dX4_common_12 : decode cX4_common 12 = .ok (.invokevirtual 140, 3) := by decide +kernel
theorem dX4_common_15 : decode cX4_common 15 = .ok (.goto 4, 3) := by decide +kernel
theorem dX4_common_18 : decode cX4_common 18 = .ok (.iconst (-1), 1) := by decide +kernel
theorem dX4_common_19 : decode cX4_common 19 = .ok (.ireturn, 1) := by decide +kernel
theorem dX4_ifMet_0 : decode cX4_ifMet 0 = .ok (.aload_n 0, 1) := by decide +kernel
theorem dX4_ifMet_1 : decode cX4_ifMet 1 = .ok (.getfield 10, 3) := by decide +kernel
theorem dX4_ifMet_4 : decode cX4_ifMet 4 = .ok (.iload_n 1, 1) := by decide +kernel
theorem dX4_ifMet_5 : decode cX4_ifMet 5 = .ok (.invokevirtual 45, 3) := by decide +kernel
theorem dX4_ifMet_8 : decode cX4_ifMet 8 = .ok (.ifnull 21, 3) := by decide +kernel
theorem dX4_ifMet_11 : decode cX4_ifMet 11 = .ok (.aload_n 0, 1) := by decide +kernel
theorem dX4_ifMet_12 : decode cX4_ifMet 12 = .ok (.getfield 10, 3) := by decide +kernel
theorem dX4_ifMet_15 : decode cX4_ifMet 15 = .ok (.iload_n 2, 1) := by decide +kernel
theorem dX4_ifMet_16 : decode cX4_ifMet 16 = .ok (.invokevirtual 45, 3) := by decide +kernel
theorem dX4_ifMet_19 : decode cX4_ifMet 19 = .ok (.ifnull 10, 3) := by decide +kernel
theorem dX4_ifMet_22 : decode cX4_ifMet 22 = .ok (.iload_n 3, 1) := by decide +kernel
theorem dX4_ifMet_23 : decode cX4_ifMet 23 = .ok (.invokestatic 80, 3) := by decide +kernel
theorem dX4_ifMet_26 : decode cX4_ifMet 26 = .ok (.ifCond .ne 5, 3) := by decide +kernel
theorem dX4_ifMet_29 : decode cX4_ifMet 29 = .ok (.iconst (-1), 1) := by decide +kernel
theorem dX4_ifMet_30 : decode cX4_ifMet 30 = .ok (.ireturn, 1) := by decide +kernel
theorem dX4_ifMet_31 : decode cX4_ifMet 31 = .ok (.iload 4, 2) := by decide +kernel
theorem dX4_ifMet_33 : decode cX4_ifMet 33 = .ok (.iconst 4, 1) := by decide +kernel
theorem dX4_ifMet_34 : decode cX4_ifMet 34 = .ok (.invokestatic 57, 3) := by decide +kernel
theorem dX4_ifMet_37 : decode cX4_ifMet 37 = .ok (.ifCond .ne 6, 3) := by decide +kernel
theorem dX4_ifMet_40 : decode cX4_ifMet 40 = .ok (.bipush (-2), 2) := by decide +kernel
theorem dX4_ifMet_42 : decode cX4_ifMet 42 = .ok (.ireturn, 1) := by decide +kernel
theorem dX4_ifMet_43 : decode cX4_ifMet 43 = .ok (.iload_n 1, 1) := by decide +kernel
theorem dX4_ifMet_44 : decode cX4_ifMet 44 = .ok (.iload_n 2, 1) := by decide +kernel
theorem dX4_ifMet_45 : decode cX4_ifMet 45 = .ok (.if_icmp .ne 6, 3) := by decide +kernel
theorem dX4_ifMet_48 : decode cX4_ifMet 48 = .ok (.bipush (-3), 2) := by decide +kernel
theorem dX4_ifMet_50 : decode cX4_ifMet 50 = .ok (.ireturn, 1) := by decide +kernel
theorem dX4_ifMet_51 : decode cX4_ifMet 51 = .ok (.aload_n 0, 1) := by decide +kernel
theorem dX4_ifMet_52 : decode cX4_ifMet 52 = .ok (.getfield 16, 3) := by decide +kernel
theorem dX4_ifMet_55 : decode cX4_ifMet 55 = .ok (.aload_n 0, 1) := by decide +kernel
theorem dX4_ifMet_56 : decode cX4_ifMet 56 = .ok (.getfield 10, 3) := by decide +kernel
theorem dX4_ifMet_59 : decode cX4_ifMet 59 = .ok (.invokevirtual 143, 3) := by decide +kernel
theorem dX4_ifMet_62 : decode cX4_ifMet 62 = .ok (.aload_n 0, 1) := by decide +kernel
theorem dX4_ifMet_63 : decode cX4_ifMet 63 = .ok (.getfield 16, 3) := by decide +kernel
theorem dX4_ifMet_66 : decode cX4_ifMet 66 = .ok (.iload_n 1, 1) := by decide +kernel
theorem dX4_ifMet_67 : decode cX4_ifMet 67 = .ok (.invokevirtual 45, 3) := by decide +kernel
theorem dX4_ifMet_70 : decode cX4_ifMet 70 = .ok (.astore 5, 2) := by decide +kernel
theorem dX4_ifMet_72 : decode cX4_ifMet 72 = .ok (.aload_n 0, 1) := by decide +kernel
theorem dX4_ifMet_73 : decode cX4_ifMet 73 = .ok (.getfield 16, 3) := by decide +kernel
theorem dX4_ifMet_76 : decode cX4_ifMet 76 = .ok (.iload_n 2, 1) := by decide +kernel
theorem dX4_ifMet_77 : decode cX4_ifMet 77 = .ok (.invokevirtual 45, 3) := by decide +kernel
theorem dX4_ifMet_80 : decode cX4_ifMet 80 = .ok (.astore 6, 2) := by decide +kernel
theorem dX4_ifMet_82 : decode cX4_ifMet 82 = .ok (.aload 5, 2) := by decide +kernel
theorem dX4_ifMet_84 : decode cX4_ifMet 84 = .ok (.ifnull 8, 3) := by decide +kernel
theorem dX4_ifMet_87 : decode cX4_ifMet 87 = .ok (.aload 6, 2) := by decide +kernel
theorem dX4_ifMet_89 : decode cX4_ifMet 89 = .ok (.ifnonnull 5, 3) := by decide +kernel
theorem dX4_ifMet_92 : decode cX4_ifMet 92 = .ok (.iconst (-1), 1) := by decide +kernel
theorem dX4_ifMet_93 : decode cX4_ifMet 93 = .ok (.ireturn, 1) := by decide +kernel
theorem dX4_ifMet_94 : decode cX4_ifMet 94 = .ok (.aload_n 0, 1) := by decide +kernel
theorem dX4_ifMet_95 : decode cX4_ifMet 95 = .ok (.getfield 16, 3) := by decide +kernel
theorem dX4_ifMet_98 : decode cX4_ifMet 98 = .ok (.aload 5, 2) := by decide +kernel
theorem dX4_ifMet_100 : decode cX4_ifMet 100 = .ok (.aload 6, 2) := by decide +kernel
theorem dX4_ifMet_102 : decode cX4_ifMet 102 = .ok (.iload_n 3, 1) := by decide +kernel
theorem dX4_ifMet_103 : decode cX4_ifMet 103 = .ok (.invokevirtual 98, 3) := by decide +kernel
theorem dX4_ifMet_106 : decode cX4_ifMet 106 = .ok (.istore 7, 2) := by decide +kernel
theorem dX4_ifMet_108 : decode cX4_ifMet 108 = .ok (.iload 4, 2) := by decide +kernel
theorem dX4_ifMet_110 : decode cX4_ifMet 110 = .ok (.tableswitch 53 0 2 #[26, 32, 38], 26) := by decide +kernel
theorem dX4_ifMet_136 : decode cX4_ifMet 136 = .ok (.iload 7, 2) := by decide +kernel
theorem dX4_ifMet_138 : decode cX4_ifMet 138 = .ok (.bipush 10, 2) := by decide +kernel
theorem dX4_ifMet_140 : decode cX4_ifMet 140 = .ok (.idiv, 1) := by decide +kernel
theorem dX4_ifMet_141 : decode cX4_ifMet 141 = .ok (.ireturn, 1) := by decide +kernel
theorem dX4_ifMet_142 : decode cX4_ifMet 142 = .ok (.iload 7, 2) := by decide +kernel
theorem dX4_ifMet_144 : decode cX4_ifMet 144 = .ok (.bipush 10, 2) := by decide +kernel
theorem dX4_ifMet_146 : decode cX4_ifMet 146 = .ok (.irem, 1) := by decide +kernel
theorem dX4_ifMet_147 : decode cX4_ifMet 147 = .ok (.ireturn, 1) := by decide +kernel
theorem dX4_ifMet_148 : decode cX4_ifMet 148 = .ok (.iload 7, 2) := by decide +kernel
theorem dX4_ifMet_150 : decode cX4_ifMet 150 = .ok (.bipush 10, 2) := by decide +kernel
theorem dX4_ifMet_152 : decode cX4_ifMet 152 = .ok (.irem, 1) := by decide +kernel
theorem dX4_ifMet_153 : decode cX4_ifMet 153 = .ok (.iload_n 3, 1) := by decide +kernel
theorem dX4_ifMet_154 : decode cX4_ifMet 154 = .ok (.if_icmp .ne 7, 3) := by decide +kernel
theorem dX4_ifMet_157 : decode cX4_ifMet 157 = .ok (.iconst 1, 1) := by decide +kernel
theorem dX4_ifMet_158 : decode cX4_ifMet 158 = .ok (.goto 4, 3) := by decide +kernel
theorem dX4_ifMet_161 : decode cX4_ifMet 161 = .ok (.iconst 0, 1) := by decide +kernel
theorem dX4_ifMet_162 : decode cX4_ifMet 162 = .ok (.ireturn, 1) := by decide +kernel
theorem dX4_ifMet_163 : decode cX4_ifMet 163 = .ok (.aload 5, 2) := by decide +kernel
theorem dX4_ifMet_165 : decode cX4_ifMet 165 = .ok (.aload 6, 2) := by decide +kernel
theorem dX4_ifMet_167 : decode cX4_ifMet 167 = .ok (.invokestatic 130, 3) := by decide +kernel
theorem dX4_ifMet_170 : decode cX4_ifMet 170 = .ok (.ireturn, 1) := by decide +kernel
theorem dX4_ifChat_0 : decode cX4_ifChat 0 = .ok (.aload_n 0, 1) := by decide +kernel
theorem dX4_ifChat_1 : decode cX4_ifChat 1 = .ok (.iload_n 1, 1) := by decide +kernel
theorem dX4_ifChat_2 : decode cX4_ifChat 2 = .ok (.invokevirtual 102, 3) := by decide +kernel
theorem dX4_ifChat_5 : decode cX4_ifChat 5 = .ok (.istore_n 2, 1) := by decide +kernel
theorem dX4_ifChat_6 : decode cX4_ifChat 6 = .ok (.iload_n 2, 1) := by decide +kernel
theorem dX4_ifChat_7 : decode cX4_ifChat 7 = .ok (.ifCond .eq 5, 3) := by decide +kernel
theorem dX4_ifChat_10 : decode cX4_ifChat 10 = .ok (.iload_n 2, 1) := by decide +kernel
theorem dX4_ifChat_11 : decode cX4_ifChat 11 = .ok (.ireturn, 1) := by decide +kernel
theorem dX4_ifChat_12 : decode cX4_ifChat 12 = .ok (.aload_n 0, 1) := by decide +kernel
theorem dX4_ifChat_13 : decode cX4_ifChat 13 = .ok (.getfield 16, 3) := by decide +kernel
theorem dX4_ifChat_16 : decode cX4_ifChat 16 = .ok (.aload_n 0, 1) := by decide +kernel
theorem dX4_ifChat_17 : decode cX4_ifChat 17 = .ok (.getfield 10, 3) := by decide +kernel
theorem dX4_ifChat_20 : decode cX4_ifChat 20 = .ok (.invokevirtual 143, 3) := by decide +kernel
theorem dX4_ifChat_23 : decode cX4_ifChat 23 = .ok (.aload_n 0, 1) := by decide +kernel
theorem dX4_ifChat_24 : decode cX4_ifChat 24 = .ok (.getfield 16, 3) := by decide +kernel
theorem dX4_ifChat_27 : decode cX4_ifChat 27 = .ok (.iload_n 1, 1) := by decide +kernel
theorem dX4_ifChat_28 : decode cX4_ifChat 28 = .ok (.invokevirtual 105, 3) := by decide +kernel
theorem dX4_ifChat_31 : decode cX4_ifChat 31 = .ok (.ireturn, 1) := by decide +kernel
theorem dX4_bestSayer_0 : decode cX4_bestSayer 0 = .ok (.aload_n 0, 1) := by decide +kernel
theorem dX4_bestSayer_1 : decode cX4_bestSayer 1 = .ok (.getfield 10, 3) := by decide +kernel
theorem dX4_bestSayer_4 : decode cX4_bestSayer 4 = .ok (.iload_n 1, 1) := by decide +kernel
theorem dX4_bestSayer_5 : decode cX4_bestSayer 5 = .ok (.invokevirtual 45, 3) := by decide +kernel
theorem dX4_bestSayer_8 : decode cX4_bestSayer 8 = .ok (.astore_n 2, 1) := by decide +kernel
theorem dX4_bestSayer_9 : decode cX4_bestSayer 9 = .ok (.aload_n 2, 1) := by decide +kernel
theorem dX4_bestSayer_10 : decode cX4_bestSayer 10 = .ok (.ifnonnull 5, 3) := by decide +kernel
theorem dX4_bestSayer_13 : decode cX4_bestSayer 13 = .ok (.iconst (-1), 1) := by decide +kernel
theorem dX4_bestSayer_14 : decode cX4_bestSayer 14 = .ok (.ireturn, 1) := by decide +kernel
theorem dX4_bestSayer_15 : decode cX4_bestSayer 15 = .ok (.bipush (-6), 2) := by decide +kernel
theorem dX4_bestSayer_17 : decode cX4_bestSayer 17 = .ok (.istore_n 3, 1) := by decide +kernel
theorem dX4_bestSayer_18 : decode cX4_bestSayer 18 = .ok (.iconst (-1), 1) := by decide +kernel
theorem dX4_bestSayer_19 : decode cX4_bestSayer 19 = .ok (.istore 4, 2) := by decide +kernel
theorem dX4_bestSayer_21 : decode cX4_bestSayer 21 = .ok (.iconst 0, 1) := by decide +kernel
theorem dX4_bestSayer_22 : decode cX4_bestSayer 22 = .ok (.istore 5, 2) := by decide +kernel
theorem dX4_bestSayer_24 : decode cX4_bestSayer 24 = .ok (.iload 5, 2) := by decide +kernel
theorem dX4_bestSayer_26 : decode cX4_bestSayer 26 = .ok (.bipush 8, 2) := by decide +kernel
theorem dX4_bestSayer_28 : decode cX4_bestSayer 28 = .ok (.if_icmp .ge 56, 3) := by decide +kernel
theorem dX4_bestSayer_31 : decode cX4_bestSayer 31 = .ok (.aload_n 0, 1) := by decide +kernel
theorem dX4_bestSayer_32 : decode cX4_bestSayer 32 = .ok (.getfield 10, 3) := by decide +kernel
theorem dX4_bestSayer_35 : decode cX4_bestSayer 35 = .ok (.iload 5, 2) := by decide +kernel
theorem dX4_bestSayer_37 : decode cX4_bestSayer 37 = .ok (.invokevirtual 45, 3) := by decide +kernel
theorem dX4_bestSayer_40 : decode cX4_bestSayer 40 = .ok (.astore 6, 2) := by decide +kernel
theorem dX4_bestSayer_42 : decode cX4_bestSayer 42 = .ok (.aload 6, 2) := by decide +kernel
theorem dX4_bestSayer_44 : decode cX4_bestSayer 44 = .ok (.ifnull 34, 3) := by decide +kernel
theorem dX4_bestSayer_47 : decode cX4_bestSayer 47 = .ok (.iload 5, 2) := by decide +kernel
theorem dX4_bestSayer_49 : decode cX4_bestSayer 49 = .ok (.iload_n 1, 1) := by decide +kernel
theorem dX4_bestSayer_50 : decode cX4_bestSayer 50 = .ok (.if_icmp .ne 6, 3) := by decide +kernel
theorem dX4_bestSayer_53 : decode cX4_bestSayer 53 = .ok (.goto 25, 3) := by decide +kernel
theorem dX4_bestSayer_56 : decode cX4_bestSayer 56 = .ok (.aload 6, 2) := by decide +kernel
theorem dX4_bestSayer_58 : decode cX4_bestSayer 58 = .ok (.aload_n 2, 1) := by decide +kernel
theorem dX4_bestSayer_59 : decode cX4_bestSayer 59 = .ok (.invokestatic 137, 3) := by decide +kernel
theorem dX4_bestSayer_62 : decode cX4_bestSayer 62 = .ok (.istore 7, 2) := by decide +kernel
theorem dX4_bestSayer_64 : decode cX4_bestSayer 64 = .ok (.iload 7, 2) := by decide +kernel
theorem dX4_bestSayer_66 : decode cX4_bestSayer 66 = .ok (.iload 4, 2) := by decide +kernel
theorem dX4_bestSayer_68 : decode cX4_bestSayer 68 = .ok (.if_icmp .le 10, 3) := by decide +kernel
theorem dX4_bestSayer_71 : decode cX4_bestSayer 71 = .ok (.iload 7, 2) := by decide +kernel
theorem dX4_bestSayer_73 : decode cX4_bestSayer 73 = .ok (.istore 4, 2) := by decide +kernel
theorem dX4_bestSayer_75 : decode cX4_bestSayer 75 = .ok (.iload 5, 2) := by decide +kernel
theorem dX4_bestSayer_77 : decode cX4_bestSayer 77 = .ok (.istore_n 3, 1) := by decide +kernel
theorem dX4_bestSayer_78 : decode cX4_bestSayer 78 = .ok (.iinc 5 1, 3) := by decide +kernel
theorem dX4_bestSayer_81 : decode cX4_bestSayer 81 = .ok (.goto (-57), 3) := by decide +kernel
theorem dX4_bestSayer_84 : decode cX4_bestSayer 84 = .ok (.iload_n 3, 1) := by decide +kernel
theorem dX4_bestSayer_85 : decode cX4_bestSayer 85 = .ok (.ireturn, 1) := by decide +kernel
theorem dX4_type_0 : decode cX4_type 0 = .ok (.iload_n 1, 1) := by decide +kernel
theorem dX4_type_1 : decode cX4_type 1 = .ok (.bipush 33, 2) := by decide +kernel
theorem dX4_type_3 : decode cX4_type 3 = .ok (.if_icmp .lt 9, 3) := by decide +kernel
theorem dX4_type_6 : decode cX4_type 6 = .ok (.iload_n 1, 1) := by decide +kernel
theorem dX4_type_7 : decode cX4_type 7 = .ok (.bipush 126, 2) := by decide +kernel
theorem dX4_type_9 : decode cX4_type 9 = .ok (.if_icmp .le 6, 3) := by decide +kernel
theorem dX4_type_12 : decode cX4_type 12 = .ok (.bipush (-2), 2) := by decide +kernel
theorem dX4_type_14 : decode cX4_type 14 = .ok (.ireturn, 1) := by decide +kernel
theorem dX4_type_15 : decode cX4_type 15 = .ok (.aload_n 0, 1) := by decide +kernel
theorem dX4_type_16 : decode cX4_type 16 = .ok (.getfield 29, 3) := by decide +kernel
theorem dX4_type_19 : decode cX4_type 19 = .ok (.iload_n 1, 1) := by decide +kernel
theorem dX4_type_20 : decode cX4_type 20 = .ok (.i2c, 1) := by decide +kernel
theorem dX4_type_21 : decode cX4_type 21 = .ok (.invokevirtual 146, 3) := by decide +kernel
theorem dX4_type_24 : decode cX4_type 24 = .ok (.ifCond .eq 13, 3) := by decide +kernel
theorem dX4_type_27 : decode cX4_type 27 = .ok (.aload_n 0, 1) := by decide +kernel
theorem dX4_type_28 : decode cX4_type 28 = .ok (.getfield 29, 3) := by decide +kernel
theorem dX4_type_31 : decode cX4_type 31 = .ok (.getfield 150, 3) := by decide +kernel
theorem dX4_type_34 : decode cX4_type 34 = .ok (.goto 5, 3) := by decide +kernel
theorem dX4_type_37 : decode cX4_type 37 = .ok (.bipush (-4), 2) := by decide +kernel
theorem dX4_type_39 : decode cX4_type 39 = .ok (.ireturn, 1) := by decide +kernel
theorem dX4_clearText_0 : decode cX4_clearText 0 = .ok (.aload_n 0, 1) := by decide +kernel
theorem dX4_clearText_1 : decode cX4_clearText 1 = .ok (.getfield 29, 3) := by decide +kernel
theorem dX4_clearText_4 : decode cX4_clearText 4 = .ok (.getfield 150, 3) := by decide +kernel
theorem dX4_clearText_7 : decode cX4_clearText 7 = .ok (.istore_n 1, 1) := by decide +kernel
theorem dX4_clearText_8 : decode cX4_clearText 8 = .ok (.aload_n 0, 1) := by decide +kernel
theorem dX4_clearText_9 : decode cX4_clearText 9 = .ok (.getfield 29, 3) := by decide +kernel
theorem dX4_clearText_12 : decode cX4_clearText 12 = .ok (.iconst 0, 1) := by decide +kernel
theorem dX4_clearText_13 : decode cX4_clearText 13 = .ok (.putfield 150, 3) := by decide +kernel
theorem dX4_clearText_16 : decode cX4_clearText 16 = .ok (.iload_n 1, 1) := by decide +kernel
theorem dX4_clearText_17 : decode cX4_clearText 17 = .ok (.ireturn, 1) := by decide +kernel
theorem dX4_syntaxError_0 : decode cX4_syntaxError 0 = .ok (.aload_n 0, 1) := by decide +kernel
theorem dX4_syntaxError_1 : decode cX4_syntaxError 1 = .ok (.getfield 29, 3) := by decide +kernel
theorem dX4_syntaxError_4 : decode cX4_syntaxError 4 = .ok (.invokevirtual 153, 3) := by decide +kernel
theorem dX4_syntaxError_7 : decode cX4_syntaxError 7 = .ok (.ireturn, 1) := by decide +kernel
theorem dX4_learn_0 : decode cX4_learn 0 = .ok (.aload_n 0, 1) := by decide +kernel
theorem dX4_learn_1 : decode cX4_learn 1 = .ok (.getfield 29, 3) := by decide +kernel
theorem dX4_learn_4 : decode cX4_learn 4 = .ok (.invokevirtual 153, 3) := by decide +kernel
theorem dX4_learn_7 : decode cX4_learn 7 = .ok (.bipush (-6), 2) := by decide +kernel
theorem dX4_learn_9 : decode cX4_learn 9 = .ok (.if_icmp .eq 6, 3) := by decide +kernel
theorem dX4_learn_12 : decode cX4_learn 12 = .ok (.bipush (-5), 2) := by decide +kernel
theorem dX4_learn_14 : decode cX4_learn 14 = .ok (.ireturn, 1) := by decide +kernel
theorem dX4_learn_15 : decode cX4_learn 15 = .ok (.aload_n 0, 1) := by decide +kernel
theorem dX4_learn_16 : decode cX4_learn 16 = .ok (.getfield 22, 3) := by decide +kernel
theorem dX4_learn_19 : decode cX4_learn 19 = .ok (.aload_n 0, 1) := by decide +kernel
theorem dX4_learn_20 : decode cX4_learn 20 = .ok (.getfield 10, 3) := by decide +kernel
theorem dX4_learn_23 : decode cX4_learn 23 = .ok (.invokevirtual 37, 3) := by decide +kernel
theorem dX4_learn_26 : decode cX4_learn 26 = .ok (.aload_n 0, 1) := by decide +kernel
theorem dX4_learn_27 : decode cX4_learn 27 = .ok (.getfield 29, 3) := by decide +kernel
theorem dX4_learn_30 : decode cX4_learn 30 = .ok (.aload_n 0, 1) := by decide +kernel
theorem dX4_learn_31 : decode cX4_learn 31 = .ok (.getfield 10, 3) := by decide +kernel
theorem dX4_learn_34 : decode cX4_learn 34 = .ok (.invokevirtual 156, 3) := by decide +kernel
theorem dX4_learn_37 : decode cX4_learn 37 = .ok (.istore_n 1, 1) := by decide +kernel
theorem dX4_learn_38 : decode cX4_learn 38 = .ok (.aload_n 0, 1) := by decide +kernel
theorem dX4_learn_39 : decode cX4_learn 39 = .ok (.getfield 29, 3) := by decide +kernel
theorem dX4_learn_42 : decode cX4_learn 42 = .ok (.iconst 0, 1) := by decide +kernel
theorem dX4_learn_43 : decode cX4_learn 43 = .ok (.putfield 150, 3) := by decide +kernel
theorem dX4_learn_46 : decode cX4_learn 46 = .ok (.iload_n 1, 1) := by decide +kernel
theorem dX4_learn_47 : decode cX4_learn 47 = .ok (.ireturn, 1) := by decide +kernel
theorem dX4_undo_0 : decode cX4_undo 0 = .ok (.aload_n 0, 1) := by decide +kernel
theorem dX4_undo_1 : decode cX4_undo 1 = .ok (.getfield 22, 3) := by decide +kernel
theorem dX4_undo_4 : decode cX4_undo 4 = .ok (.aload_n 0, 1) := by decide +kernel
theorem dX4_undo_5 : decode cX4_undo 5 = .ok (.getfield 10, 3) := by decide +kernel
theorem dX4_undo_8 : decode cX4_undo 8 = .ok (.invokevirtual 160, 3) := by decide +kernel
theorem dX4_undo_11 : decode cX4_undo 11 = .ok (.ifCond .eq 13, 3) := by decide +kernel
theorem dX4_undo_14 : decode cX4_undo 14 = .ok (.aload_n 0, 1) := by decide +kernel
theorem dX4_undo_15 : decode cX4_undo 15 = .ok (.getfield 22, 3) := by decide +kernel
theorem dX4_undo_18 : decode cX4_undo 18 = .ok (.getfield 164, 3) := by decide +kernel
theorem dX4_undo_21 : decode cX4_undo 21 = .ok (.goto 5, 3) := by decide +kernel
theorem dX4_undo_24 : decode cX4_undo 24 = .ok (.bipush (-3), 2) := by decide +kernel
theorem dX4_undo_26 : decode cX4_undo 26 = .ok (.ireturn, 1) := by decide +kernel
theorem dX4_digest_0 : decode cX4_digest 0 = .ok (.ldc2_w 167, 3) := by decide +kernel
theorem dX4_digest_3 : decode cX4_digest 3 = .ok (.lstore_n 1, 1) := by decide +kernel
theorem dX4_digest_4 : decode cX4_digest 4 = .ok (.iconst 0, 1) := by decide +kernel
theorem dX4_digest_5 : decode cX4_digest 5 = .ok (.istore_n 3, 1) := by decide +kernel
theorem dX4_digest_6 : decode cX4_digest 6 = .ok (.iload_n 3, 1) := by decide +kernel
theorem dX4_digest_7 : decode cX4_digest 7 = .ok (.bipush 7, 2) := by decide +kernel
theorem dX4_digest_9 : decode cX4_digest 9 = .ok (.if_icmp .ge 22, 3) := by decide +kernel
theorem dX4_digest_12 : decode cX4_digest 12 = .ok (.lload_n 1, 1) := by decide +kernel
theorem dX4_digest_13 : decode cX4_digest 13 = .ok (.aload_n 0, 1) := by decide +kernel
theorem dX4_digest_14 : decode cX4_digest 14 = .ok (.getfield 10, 3) := by decide +kernel
theorem dX4_digest_17 : decode cX4_digest 17 = .ok (.iload_n 3, 1) := by decide +kernel
theorem dX4_digest_18 : decode cX4_digest 18 = .ok (.invokevirtual 111, 3) := by decide +kernel
theorem dX4_digest_21 : decode cX4_digest 21 = .ok (.invokestatic 169, 3) := by decide +kernel
theorem dX4_digest_24 : decode cX4_digest 24 = .ok (.lstore_n 1, 1) := by decide +kernel
theorem dX4_digest_25 : decode cX4_digest 25 = .ok (.iinc 3 1, 3) := by decide +kernel
theorem dX4_digest_28 : decode cX4_digest 28 = .ok (.goto (-22), 3) := by decide +kernel
theorem dX4_digest_31 : decode cX4_digest 31 = .ok (.iconst 0, 1) := by decide +kernel
theorem dX4_digest_32 : decode cX4_digest 32 = .ok (.istore_n 3, 1) := by decide +kernel
theorem dX4_digest_33 : decode cX4_digest 33 = .ok (.iload_n 3, 1) := by decide +kernel
theorem dX4_digest_34 : decode cX4_digest 34 = .ok (.iconst 4, 1) := by decide +kernel
theorem dX4_digest_35 : decode cX4_digest 35 = .ok (.if_icmp .ge 22, 3) := by decide +kernel
theorem dX4_digest_38 : decode cX4_digest 38 = .ok (.lload_n 1, 1) := by decide +kernel
theorem dX4_digest_39 : decode cX4_digest 39 = .ok (.aload_n 0, 1) := by decide +kernel
theorem dX4_digest_40 : decode cX4_digest 40 = .ok (.getfield 10, 3) := by decide +kernel
theorem dX4_digest_43 : decode cX4_digest 43 = .ok (.iload_n 3, 1) := by decide +kernel
theorem dX4_digest_44 : decode cX4_digest 44 = .ok (.invokevirtual 68, 3) := by decide +kernel
theorem dX4_digest_47 : decode cX4_digest 47 = .ok (.invokestatic 169, 3) := by decide +kernel
theorem dX4_digest_50 : decode cX4_digest 50 = .ok (.lstore_n 1, 1) := by decide +kernel
theorem dX4_digest_51 : decode cX4_digest 51 = .ok (.iinc 3 1, 3) := by decide +kernel
theorem dX4_digest_54 : decode cX4_digest 54 = .ok (.goto (-21), 3) := by decide +kernel
theorem dX4_digest_57 : decode cX4_digest 57 = .ok (.iconst 0, 1) := by decide +kernel
theorem dX4_digest_58 : decode cX4_digest 58 = .ok (.istore_n 3, 1) := by decide +kernel
theorem dX4_digest_59 : decode cX4_digest 59 = .ok (.iload_n 3, 1) := by decide +kernel
theorem dX4_digest_60 : decode cX4_digest 60 = .ok (.bipush 8, 2) := by decide +kernel
theorem dX4_digest_62 : decode cX4_digest 62 = .ok (.if_icmp .ge 16, 3) := by decide +kernel
theorem dX4_digest_65 : decode cX4_digest 65 = .ok (.aload_n 0, 1) := by decide +kernel
theorem dX4_digest_66 : decode cX4_digest 66 = .ok (.lload_n 1, 1) := by decide +kernel
theorem dX4_digest_67 : decode cX4_digest 67 = .ok (.iload_n 3, 1) := by decide +kernel
theorem dX4_digest_68 : decode cX4_digest 68 = .ok (.invokevirtual 173, 3) := by decide +kernel
theorem dX4_digest_71 : decode cX4_digest 71 = .ok (.lstore_n 1, 1) := by decide +kernel
theorem dX4_digest_72 : decode cX4_digest 72 = .ok (.iinc 3 1, 3) := by decide +kernel
theorem dX4_digest_75 : decode cX4_digest 75 = .ok (.goto (-16), 3) := by decide +kernel
theorem dX4_digest_78 : decode cX4_digest 78 = .ok (.iconst 0, 1) := by decide +kernel
theorem dX4_digest_79 : decode cX4_digest 79 = .ok (.istore_n 3, 1) := by decide +kernel
theorem dX4_digest_80 : decode cX4_digest 80 = .ok (.iload_n 3, 1) := by decide +kernel
theorem dX4_digest_81 : decode cX4_digest 81 = .ok (.bipush 6, 2) := by decide +kernel
theorem dX4_digest_83 : decode cX4_digest 83 = .ok (.if_icmp .ge 22, 3) := by decide +kernel
theorem dX4_digest_86 : decode cX4_digest 86 = .ok (.lload_n 1, 1) := by decide +kernel
theorem dX4_digest_87 : decode cX4_digest 87 = .ok (.aload_n 0, 1) := by decide +kernel
theorem dX4_digest_88 : decode cX4_digest 88 = .ok (.getfield 10, 3) := by decide +kernel
theorem dX4_digest_91 : decode cX4_digest 91 = .ok (.iload_n 3, 1) := by decide +kernel
theorem dX4_digest_92 : decode cX4_digest 92 = .ok (.invokevirtual 140, 3) := by decide +kernel
theorem dX4_digest_95 : decode cX4_digest 95 = .ok (.invokestatic 169, 3) := by decide +kernel
theorem dX4_digest_98 : decode cX4_digest 98 = .ok (.lstore_n 1, 1) := by decide +kernel
theorem dX4_digest_99 : decode cX4_digest 99 = .ok (.iinc 3 1, 3) := by decide +kernel
theorem dX4_digest_102 : decode cX4_digest 102 = .ok (.goto (-22), 3) := by decide +kernel
theorem dX4_digest_105 : decode cX4_digest 105 = .ok (.iconst 0, 1) := by decide +kernel
theorem dX4_digest_106 : decode cX4_digest 106 = .ok (.istore_n 3, 1) := by decide +kernel
theorem dX4_digest_107 : decode cX4_digest 107 = .ok (.iload_n 3, 1) := by decide +kernel
theorem dX4_digest_108 : decode cX4_digest 108 = .ok (.bipush 8, 2) := by decide +kernel
theorem dX4_digest_110 : decode cX4_digest 110 = .ok (.if_icmp .ge 16, 3) := by decide +kernel
theorem dX4_digest_113 : decode cX4_digest 113 = .ok (.aload_n 0, 1) := by decide +kernel
theorem dX4_digest_114 : decode cX4_digest 114 = .ok (.lload_n 1, 1) := by decide +kernel
theorem dX4_digest_115 : decode cX4_digest 115 = .ok (.iload_n 3, 1) := by decide +kernel
theorem dX4_digest_116 : decode cX4_digest 116 = .ok (.invokevirtual 176, 3) := by decide +kernel
theorem dX4_digest_119 : decode cX4_digest 119 = .ok (.lstore_n 1, 1) := by decide +kernel
theorem dX4_digest_120 : decode cX4_digest 120 = .ok (.iinc 3 1, 3) := by decide +kernel
theorem dX4_digest_123 : decode cX4_digest 123 = .ok (.goto (-16), 3) := by decide +kernel
theorem dX4_digest_126 : decode cX4_digest 126 = .ok (.lload_n 1, 1) := by decide +kernel
theorem dX4_digest_127 : decode cX4_digest 127 = .ok (.lreturn, 1) := by decide +kernel
theorem dX4_mixed_0 : decode cX4_mixed 0 = .ok (.ldc2_w 179, 3) := by decide +kernel
theorem dX4_mixed_3 : decode cX4_mixed 3 = .ok (.lload_n 0, 1) := by decide +kernel
theorem dX4_mixed_4 : decode cX4_mixed 4 = .ok (.lmul, 1) := by decide +kernel
theorem dX4_mixed_5 : decode cX4_mixed 5 = .ok (.iload_n 2, 1) := by decide +kernel
theorem dX4_mixed_6 : decode cX4_mixed 6 = .ok (.i2l, 1) := by decide +kernel
theorem dX4_mixed_7 : decode cX4_mixed 7 = .ok (.ladd, 1) := by decide +kernel
theorem dX4_mixed_8 : decode cX4_mixed 8 = .ok (.lreturn, 1) := by decide +kernel
theorem dX4_withSpeaker_0 : decode cX4_withSpeaker 0 = .ok (.aload_n 0, 1) := by decide +kernel
theorem dX4_withSpeaker_1 : decode cX4_withSpeaker 1 = .ok (.getfield 10, 3) := by decide +kernel
theorem dX4_withSpeaker_4 : decode cX4_withSpeaker 4 = .ok (.iload_n 3, 1) := by decide +kernel
theorem dX4_withSpeaker_5 : decode cX4_withSpeaker 5 = .ok (.invokevirtual 45, 3) := by decide +kernel
theorem dX4_withSpeaker_8 : decode cX4_withSpeaker 8 = .ok (.astore 4, 2) := by decide +kernel
theorem dX4_withSpeaker_10 : decode cX4_withSpeaker 10 = .ok (.aload 4, 2) := by decide +kernel
theorem dX4_withSpeaker_12 : decode cX4_withSpeaker 12 = .ok (.ifnonnull 5, 3) := by decide +kernel
theorem dX4_withSpeaker_15 : decode cX4_withSpeaker 15 = .ok (.lload_n 1, 1) := by decide +kernel
theorem dX4_withSpeaker_16 : decode cX4_withSpeaker 16 = .ok (.lreturn, 1) := by decide +kernel
theorem dX4_withSpeaker_17 : decode cX4_withSpeaker 17 = .ok (.lload_n 1, 1) := by decide +kernel
theorem dX4_withSpeaker_18 : decode cX4_withSpeaker 18 = .ok (.iload_n 3, 1) := by decide +kernel
theorem dX4_withSpeaker_19 : decode cX4_withSpeaker 19 = .ok (.invokestatic 169, 3) := by decide +kernel
theorem dX4_withSpeaker_22 : decode cX4_withSpeaker 22 = .ok (.lstore 5, 2) := by decide +kernel
theorem dX4_withSpeaker_24 : decode cX4_withSpeaker 24 = .ok (.iconst 0, 1) := by decide +kernel
theorem dX4_withSpeaker_25 : decode cX4_withSpeaker 25 = .ok (.istore 7, 2) := by decide +kernel
theorem dX4_withSpeaker_27 : decode cX4_withSpeaker 27 = .ok (.iload 7, 2) := by decide +kernel
theorem dX4_withSpeaker_29 : decode cX4_withSpeaker 29 = .ok (.iconst 5, 1) := by decide +kernel
theorem dX4_withSpeaker_30 : decode cX4_withSpeaker 30 = .ok (.if_icmp .ge 27, 3) := by decide +kernel
theorem dX4_withSpeaker_33 : decode cX4_withSpeaker 33 = .ok (.lload 5, 2) := by decide +kernel
theorem dX4_withSpeaker_35 : decode cX4_withSpeaker 35 = .ok (.aload_n 0, 1) := by decide +kernel
theorem dX4_withSpeaker_36 : decode cX4_withSpeaker 36 = .ok (.getfield 10, 3) := by decide +kernel
theorem dX4_withSpeaker_39 : decode cX4_withSpeaker 39 = .ok (.aload 4, 2) := by decide +kernel
theorem dX4_withSpeaker_41 : decode cX4_withSpeaker 41 = .ok (.iload 7, 2) := by decide +kernel
theorem dX4_withSpeaker_43 : decode cX4_withSpeaker 43 = .ok (.invokevirtual 114, 3) := by decide +kernel
theorem dX4_withSpeaker_46 : decode cX4_withSpeaker 46 = .ok (.invokestatic 169, 3) := by decide +kernel
theorem dX4_withSpeaker_49 : decode cX4_withSpeaker 49 = .ok (.lstore 5, 2) := by decide +kernel
theorem dX4_withSpeaker_51 : decode cX4_withSpeaker 51 = .ok (.iinc 7 1, 3) := by decide +kernel
theorem dX4_withSpeaker_54 : decode cX4_withSpeaker 54 = .ok (.goto (-27), 3) := by decide +kernel
theorem dX4_withSpeaker_57 : decode cX4_withSpeaker 57 = .ok (.iconst 0, 1) := by decide +kernel
theorem dX4_withSpeaker_58 : decode cX4_withSpeaker 58 = .ok (.istore 7, 2) := by decide +kernel
theorem dX4_withSpeaker_60 : decode cX4_withSpeaker 60 = .ok (.iload 7, 2) := by decide +kernel
theorem dX4_withSpeaker_62 : decode cX4_withSpeaker 62 = .ok (.bipush 6, 2) := by decide +kernel
theorem dX4_withSpeaker_64 : decode cX4_withSpeaker 64 = .ok (.if_icmp .ge 23, 3) := by decide +kernel
theorem dX4_withSpeaker_67 : decode cX4_withSpeaker 67 = .ok (.lload 5, 2) := by decide +kernel
theorem dX4_withSpeaker_69 : decode cX4_withSpeaker 69 = .ok (.aload 4, 2) := by decide +kernel
theorem dX4_withSpeaker_71 : decode cX4_withSpeaker 71 = .ok (.iload 7, 2) := by decide +kernel
theorem dX4_withSpeaker_73 : decode cX4_withSpeaker 73 = .ok (.invokevirtual 118, 3) := by decide +kernel
theorem dX4_withSpeaker_76 : decode cX4_withSpeaker 76 = .ok (.invokestatic 169, 3) := by decide +kernel
theorem dX4_withSpeaker_79 : decode cX4_withSpeaker 79 = .ok (.lstore 5, 2) := by decide +kernel
theorem dX4_withSpeaker_81 : decode cX4_withSpeaker 81 = .ok (.iinc 7 1, 3) := by decide +kernel
theorem dX4_withSpeaker_84 : decode cX4_withSpeaker 84 = .ok (.goto (-24), 3) := by decide +kernel
theorem dX4_withSpeaker_87 : decode cX4_withSpeaker 87 = .ok (.lload 5, 2) := by decide +kernel
theorem dX4_withSpeaker_89 : decode cX4_withSpeaker 89 = .ok (.lreturn, 1) := by decide +kernel
theorem dX4_withPairsOf_0 : decode cX4_withPairsOf 0 = .ok (.aload_n 0, 1) := by decide +kernel
theorem dX4_withPairsOf_1 : decode cX4_withPairsOf 1 = .ok (.getfield 10, 3) := by decide +kernel
theorem dX4_withPairsOf_4 : decode cX4_withPairsOf 4 = .ok (.iload_n 3, 1) := by decide +kernel
theorem dX4_withPairsOf_5 : decode cX4_withPairsOf 5 = .ok (.invokevirtual 45, 3) := by decide +kernel
theorem dX4_withPairsOf_8 : decode cX4_withPairsOf 8 = .ok (.astore 4, 2) := by decide +kernel
theorem dX4_withPairsOf_10 : decode cX4_withPairsOf 10 = .ok (.aload 4, 2) := by decide +kernel
theorem dX4_withPairsOf_12 : decode cX4_withPairsOf 12 = .ok (.ifnonnull 5, 3) := by decide +kernel
theorem dX4_withPairsOf_15 : decode cX4_withPairsOf 15 = .ok (.lload_n 1, 1) := by decide +kernel
theorem dX4_withPairsOf_16 : decode cX4_withPairsOf 16 = .ok (.lreturn, 1) := by decide +kernel
theorem dX4_withPairsOf_17 : decode cX4_withPairsOf 17 = .ok (.lload_n 1, 1) := by decide +kernel
theorem dX4_withPairsOf_18 : decode cX4_withPairsOf 18 = .ok (.lstore 5, 2) := by decide +kernel
theorem dX4_withPairsOf_20 : decode cX4_withPairsOf 20 = .ok (.iload_n 3, 1) := by decide +kernel
theorem dX4_withPairsOf_21 : decode cX4_withPairsOf 21 = .ok (.iconst 1, 1) := by decide +kernel
theorem dX4_withPairsOf_22 : decode cX4_withPairsOf 22 = .ok (.iadd, 1) := by decide +kernel
theorem dX4_withPairsOf_23 : decode cX4_withPairsOf 23 = .ok (.istore 7, 2) := by decide +kernel
theorem dX4_withPairsOf_25 : decode cX4_withPairsOf 25 = .ok (.iload 7, 2) := by decide +kernel
theorem dX4_withPairsOf_27 : decode cX4_withPairsOf 27 = .ok (.bipush 8, 2) := by decide +kernel
theorem dX4_withPairsOf_29 : decode cX4_withPairsOf 29 = .ok (.if_icmp .ge 53, 3) := by decide +kernel
theorem dX4_withPairsOf_32 : decode cX4_withPairsOf 32 = .ok (.aload_n 0, 1) := by decide +kernel
theorem dX4_withPairsOf_33 : decode cX4_withPairsOf 33 = .ok (.getfield 10, 3) := by decide +kernel
theorem dX4_withPairsOf_36 : decode cX4_withPairsOf 36 = .ok (.iload 7, 2) := by decide +kernel
theorem dX4_withPairsOf_38 : decode cX4_withPairsOf 38 = .ok (.invokevirtual 45, 3) := by decide +kernel
theorem dX4_withPairsOf_41 : decode cX4_withPairsOf 41 = .ok (.astore 8, 2) := by decide +kernel
theorem dX4_withPairsOf_43 : decode cX4_withPairsOf 43 = .ok (.aload 8, 2) := by decide +kernel
theorem dX4_withPairsOf_45 : decode cX4_withPairsOf 45 = .ok (.ifnull 31, 3) := by decide +kernel
theorem dX4_withPairsOf_48 : decode cX4_withPairsOf 48 = .ok (.lload 5, 2) := by decide +kernel
theorem dX4_withPairsOf_50 : decode cX4_withPairsOf 50 = .ok (.aload 4, 2) := by decide +kernel
theorem dX4_withPairsOf_52 : decode cX4_withPairsOf 52 = .ok (.aload 8, 2) := by decide +kernel
theorem dX4_withPairsOf_54 : decode cX4_withPairsOf 54 = .ok (.invokestatic 130, 3) := by decide +kernel
theorem dX4_withPairsOf_57 : decode cX4_withPairsOf 57 = .ok (.invokestatic 169, 3) := by decide +kernel
theorem dX4_withPairsOf_60 : decode cX4_withPairsOf 60 = .ok (.lstore 5, 2) := by decide +kernel
theorem dX4_withPairsOf_62 : decode cX4_withPairsOf 62 = .ok (.lload 5, 2) := by decide +kernel
theorem dX4_withPairsOf_64 : decode cX4_withPairsOf 64 = .ok (.aload 4, 2) := by decide +kernel
theorem dX4_withPairsOf_66 : decode cX4_withPairsOf 66 = .ok (.aload 8, 2) := by decide +kernel
theorem dX4_withPairsOf_68 : decode cX4_withPairsOf 68 = .ok (.invokestatic 137, 3) := by decide +kernel
theorem dX4_withPairsOf_71 : decode cX4_withPairsOf 71 = .ok (.invokestatic 169, 3) := by decide +kernel
theorem dX4_withPairsOf_74 : decode cX4_withPairsOf 74 = .ok (.lstore 5, 2) := by decide +kernel
theorem dX4_withPairsOf_76 : decode cX4_withPairsOf 76 = .ok (.iinc 7 1, 3) := by decide +kernel
theorem dX4_withPairsOf_79 : decode cX4_withPairsOf 79 = .ok (.goto (-54), 3) := by decide +kernel
theorem dX4_withPairsOf_82 : decode cX4_withPairsOf 82 = .ok (.lload 5, 2) := by decide +kernel
theorem dX4_withPairsOf_84 : decode cX4_withPairsOf 84 = .ok (.lreturn, 1) := by decide +kernel
theorem dX4_refusalOfChat_0 : decode cX4_refusalOfChat 0 = .ok (.iload_n 1, 1) := by decide +kernel
theorem dX4_refusalOfChat_1 : decode cX4_refusalOfChat 1 = .ok (.iconst 1, 1) := by decide +kernel
theorem dX4_refusalOfChat_2 : decode cX4_refusalOfChat 2 = .ok (.if_icmp .lt 10, 3) := by decide +kernel
theorem dX4_refusalOfChat_5 : decode cX4_refusalOfChat 5 = .ok (.iload_n 1, 1) := by decide +kernel
theorem dX4_refusalOfChat_6 : decode cX4_refusalOfChat 6 = .ok (.sipush 200, 3) := by decide +kernel
theorem dX4_refusalOfChat_9 : decode cX4_refusalOfChat 9 = .ok (.if_icmp .le 6, 3) := by decide +kernel
theorem dX4_refusalOfChat_12 : decode cX4_refusalOfChat 12 = .ok (.bipush (-2), 2) := by decide +kernel
theorem dX4_refusalOfChat_14 : decode cX4_refusalOfChat 14 = .ok (.ireturn, 1) := by decide +kernel
theorem dX4_refusalOfChat_15 : decode cX4_refusalOfChat 15 = .ok (.aload_n 0, 1) := by decide +kernel
theorem dX4_refusalOfChat_16 : decode cX4_refusalOfChat 16 = .ok (.getfield 10, 3) := by decide +kernel
theorem dX4_refusalOfChat_19 : decode cX4_refusalOfChat 19 = .ok (.invokevirtual 54, 3) := by decide +kernel
theorem dX4_refusalOfChat_22 : decode cX4_refusalOfChat 22 = .ok (.iconst 2, 1) := by decide +kernel
theorem dX4_refusalOfChat_23 : decode cX4_refusalOfChat 23 = .ok (.if_icmp .ge 8, 3) := by decide +kernel
theorem dX4_refusalOfChat_26 : decode cX4_refusalOfChat 26 = .ok (.bipush (-3), 2) := by decide +kernel
theorem dX4_refusalOfChat_28 : decode cX4_refusalOfChat 28 = .ok (.goto 4, 3) := by decide +kernel
theorem dX4_refusalOfChat_31 : decode cX4_refusalOfChat 31 = .ok (.iconst 0, 1) := by decide +kernel
theorem dX4_refusalOfChat_32 : decode cX4_refusalOfChat 32 = .ok (.ireturn, 1) := by decide +kernel
theorem dX4_agreementByMeanings_0 : decode cX4_agreementByMeanings 0 = .ok (.iconst 0, 1) := by decide +kernel
theorem dX4_agreementByMeanings_1 : decode cX4_agreementByMeanings 1 = .ok (.istore_n 2, 1) := by decide +kernel
theorem dX4_agreementByMeanings_2 : decode cX4_agreementByMeanings 2 = .ok (.iconst 0, 1) := by decide +kernel
theorem dX4_agreementByMeanings_3 : decode cX4_agreementByMeanings 3 = .ok (.istore_n 3, 1) := by decide +kernel
theorem dX4_agreementByMeanings_4 : decode cX4_agreementByMeanings 4 = .ok (.iload_n 3, 1) := by decide +kernel
theorem dX4_agreementByMeanings_5 : decode cX4_agreementByMeanings 5 = .ok (.bipush 6, 2) := by decide +kernel
theorem dX4_agreementByMeanings_7 : decode cX4_agreementByMeanings 7 = .ok (.if_icmp .ge 36, 3) := by decide +kernel
theorem dX4_agreementByMeanings_10 : decode cX4_agreementByMeanings 10 = .ok (.aload_n 0, 1) := by decide +kernel
theorem dX4_agreementByMeanings_11 : decode cX4_agreementByMeanings 11 = .ok (.iload_n 3, 1) := by decide +kernel
theorem dX4_agreementByMeanings_12 : decode cX4_agreementByMeanings 12 = .ok (.invokevirtual 118, 3) := by decide +kernel
theorem dX4_agreementByMeanings_15 : decode cX4_agreementByMeanings 15 = .ok (.istore 4, 2) := by decide +kernel
theorem dX4_agreementByMeanings_17 : decode cX4_agreementByMeanings 17 = .ok (.iload 4, 2) := by decide +kernel
theorem dX4_agreementByMeanings_19 : decode cX4_agreementByMeanings 19 = .ok (.bipush (-6), 2) := by decide +kernel
theorem dX4_agreementByMeanings_21 : decode cX4_agreementByMeanings 21 = .ok (.if_icmp .eq 16, 3) := by decide +kernel
theorem dX4_agreementByMeanings_24 : decode cX4_agreementByMeanings 24 = .ok (.iload 4, 2) := by decide +kernel
theorem dX4_agreementByMeanings_26 : decode cX4_agreementByMeanings 26 = .ok (.aload_n 1, 1) := by decide +kernel
theorem dX4_agreementByMeanings_27 : decode cX4_agreementByMeanings 27 = .ok (.iload_n 3, 1) := by decide +kernel
theorem dX4_agreementByMeanings_28 : decode cX4_agreementByMeanings 28 = .ok (.invokevirtual 118, 3) := by decide +kernel
theorem dX4_agreementByMeanings_31 : decode cX4_agreementByMeanings 31 = .ok (.if_icmp .ne 6, 3) := by decide +kernel
theorem dX4_agreementByMeanings_34 : decode cX4_agreementByMeanings 34 = .ok (.iinc 2 1, 3) := by decide +kernel
theorem dX4_agreementByMeanings_37 : decode cX4_agreementByMeanings 37 = .ok (.iinc 3 1, 3) := by decide +kernel
theorem dX4_agreementByMeanings_40 : decode cX4_agreementByMeanings 40 = .ok (.goto (-36), 3) := by decide +kernel
theorem dX4_agreementByMeanings_43 : decode cX4_agreementByMeanings 43 = .ok (.iload_n 2, 1) := by decide +kernel
theorem dX4_agreementByMeanings_44 : decode cX4_agreementByMeanings 44 = .ok (.ireturn, 1) := by decide +kernel
theorem dX4_agreementByWords_0 : decode cX4_agreementByWords 0 = .ok (.iconst 0, 1) := by decide +kernel
theorem dX4_agreementByWords_1 : decode cX4_agreementByWords 1 = .ok (.istore_n 2, 1) := by decide +kernel
theorem dX4_agreementByWords_2 : decode cX4_agreementByWords 2 = .ok (.iconst 0, 1) := by decide +kernel
theorem dX4_agreementByWords_3 : decode cX4_agreementByWords 3 = .ok (.istore_n 3, 1) := by decide +kernel
theorem dX4_agreementByWords_4 : decode cX4_agreementByWords 4 = .ok (.iload_n 3, 1) := by decide +kernel
theorem dX4_agreementByWords_5 : decode cX4_agreementByWords 5 = .ok (.bipush 14, 2) := by decide +kernel
theorem dX4_agreementByWords_7 : decode cX4_agreementByWords 7 = .ok (.if_icmp .ge 48, 3) := by decide +kernel
theorem dX4_agreementByWords_10 : decode cX4_agreementByWords 10 = .ok (.iconst 0, 1) := by decide +kernel
theorem dX4_agreementByWords_11 : decode cX4_agreementByWords 11 = .ok (.istore 4, 2) := by decide +kernel
theorem dX4_agreementByWords_13 : decode cX4_agreementByWords 13 = .ok (.iload 4, 2) := by decide +kernel
theorem dX4_agreementByWords_15 : decode cX4_agreementByWords 15 = .ok (.bipush 6, 2) := by decide +kernel
theorem dX4_agreementByWords_17 : decode cX4_agreementByWords 17 = .ok (.if_icmp .ge 32, 3) := by decide +kernel
theorem dX4_agreementByWords_20 : decode cX4_agreementByWords 20 = .ok (.aload_n 0, 1) := by decide +kernel
theorem dX4_agreementByWords_21 : decode cX4_agreementByWords 21 = .ok (.iload 4, 2) := by decide +kernel
theorem dX4_agreementByWords_23 : decode cX4_agreementByWords 23 = .ok (.invokevirtual 118, 3) := by decide +kernel
theorem dX4_agreementByWords_26 : decode cX4_agreementByWords 26 = .ok (.iload_n 3, 1) := by decide +kernel
theorem dX4_agreementByWords_27 : decode cX4_agreementByWords 27 = .ok (.if_icmp .ne 16, 3) := by decide +kernel
theorem dX4_agreementByWords_30 : decode cX4_agreementByWords 30 = .ok (.aload_n 1, 1) := by decide +kernel
theorem dX4_agreementByWords_31 : decode cX4_agreementByWords 31 = .ok (.iload 4, 2) := by decide +kernel
theorem dX4_agreementByWords_33 : decode cX4_agreementByWords 33 = .ok (.invokevirtual 118, 3) := by decide +kernel
theorem dX4_agreementByWords_36 : decode cX4_agreementByWords 36 = .ok (.iload_n 3, 1) := by decide +kernel
theorem dX4_agreementByWords_37 : decode cX4_agreementByWords 37 = .ok (.if_icmp .ne 6, 3) := by decide +kernel
theorem dX4_agreementByWords_40 : decode cX4_agreementByWords 40 = .ok (.iinc 2 1, 3) := by decide +kernel
theorem dX4_agreementByWords_43 : decode cX4_agreementByWords 43 = .ok (.iinc 4 1, 3) := by decide +kernel
theorem dX4_agreementByWords_46 : decode cX4_agreementByWords 46 = .ok (.goto (-33), 3) := by decide +kernel
theorem dX4_agreementByWords_49 : decode cX4_agreementByWords 49 = .ok (.iinc 3 1, 3) := by decide +kernel
theorem dX4_agreementByWords_52 : decode cX4_agreementByWords 52 = .ok (.goto (-48), 3) := by decide +kernel
theorem dX4_agreementByWords_55 : decode cX4_agreementByWords 55 = .ok (.iload_n 2, 1) := by decide +kernel
theorem dX4_agreementByWords_56 : decode cX4_agreementByWords 56 = .ok (.ireturn, 1) := by decide +kernel
theorem dX4_understandingOf_0 : decode cX4_understandingOf 0 = .ok (.iconst 0, 1) := by decide +kernel
theorem dX4_understandingOf_1 : decode cX4_understandingOf 1 = .ok (.istore_n 2, 1) := by decide +kernel
theorem dX4_understandingOf_2 : decode cX4_understandingOf 2 = .ok (.iconst 0, 1) := by decide +kernel
theorem dX4_understandingOf_3 : decode cX4_understandingOf 3 = .ok (.istore_n 3, 1) := by decide +kernel
theorem dX4_understandingOf_4 : decode cX4_understandingOf 4 = .ok (.iload_n 3, 1) := by decide +kernel
theorem dX4_understandingOf_5 : decode cX4_understandingOf 5 = .ok (.bipush 6, 2) := by decide +kernel
theorem dX4_understandingOf_7 : decode cX4_understandingOf 7 = .ok (.if_icmp .ge 36, 3) := by decide +kernel
theorem dX4_understandingOf_10 : decode cX4_understandingOf 10 = .ok (.aload_n 0, 1) := by decide +kernel
theorem dX4_understandingOf_11 : decode cX4_understandingOf 11 = .ok (.iload_n 3, 1) := by decide +kernel
theorem dX4_understandingOf_12 : decode cX4_understandingOf 12 = .ok (.invokevirtual 118, 3) := by decide +kernel
theorem dX4_understandingOf_15 : decode cX4_understandingOf 15 = .ok (.istore 4, 2) := by decide +kernel
theorem dX4_understandingOf_17 : decode cX4_understandingOf 17 = .ok (.iload 4, 2) := by decide +kernel
theorem dX4_understandingOf_19 : decode cX4_understandingOf 19 = .ok (.bipush (-6), 2) := by decide +kernel
theorem dX4_understandingOf_21 : decode cX4_understandingOf 21 = .ok (.if_icmp .eq 16, 3) := by decide +kernel
theorem dX4_understandingOf_24 : decode cX4_understandingOf 24 = .ok (.aload_n 1, 1) := by decide +kernel
theorem dX4_understandingOf_25 : decode cX4_understandingOf 25 = .ok (.iload 4, 2) := by decide +kernel
theorem dX4_understandingOf_27 : decode cX4_understandingOf 27 = .ok (.invokevirtual 121, 3) := by decide +kernel
theorem dX4_understandingOf_30 : decode cX4_understandingOf 30 = .ok (.iload_n 3, 1) := by decide +kernel
theorem dX4_understandingOf_31 : decode cX4_understandingOf 31 = .ok (.if_icmp .ne 6, 3) := by decide +kernel
theorem dX4_understandingOf_34 : decode cX4_understandingOf 34 = .ok (.iinc 2 1, 3) := by decide +kernel
theorem dX4_understandingOf_37 : decode cX4_understandingOf 37 = .ok (.iinc 3 1, 3) := by decide +kernel
theorem dX4_understandingOf_40 : decode cX4_understandingOf 40 = .ok (.goto (-36), 3) := by decide +kernel
theorem dX4_understandingOf_43 : decode cX4_understandingOf 43 = .ok (.iload_n 2, 1) := by decide +kernel
theorem dX4_understandingOf_44 : decode cX4_understandingOf 44 = .ok (.ireturn, 1) := by decide +kernel
theorem dX4_isBelow_0 : decode cX4_isBelow 0 = .ok (.iload_n 0, 1) := by decide +kernel
theorem dX4_isBelow_1 : decode cX4_isBelow 1 = .ok (.ifCond .lt 12, 3) := by decide +kernel
theorem dX4_isBelow_4 : decode cX4_isBelow 4 = .ok (.iload_n 0, 1) := by decide +kernel
theorem dX4_isBelow_5 : decode cX4_isBelow 5 = .ok (.iload_n 1, 1) := by decide +kernel
theorem dX4_isBelow_6 : decode cX4_isBelow 6 = .ok (.if_icmp .ge 7, 3) := by decide +kernel
theorem dX4_isBelow_9 : decode cX4_isBelow 9 = .ok (.iconst 1, 1) := by decide +kernel
theorem dX4_isBelow_10 : decode cX4_isBelow 10 = .ok (.goto 4, 3) := by decide +kernel
theorem dX4_isBelow_13 : decode cX4_isBelow 13 = .ok (.iconst 0, 1) := by decide +kernel
theorem dX4_isBelow_14 : decode cX4_isBelow 14 = .ok (.ireturn, 1) := by decide +kernel
theorem dX4_isMeaning_0 : decode cX4_isMeaning 0 = .ok (.iload_n 0, 1) := by decide +kernel
theorem dX4_isMeaning_1 : decode cX4_isMeaning 1 = .ok (.ifCond .lt 13, 3) := by decide +kernel
theorem dX4_isMeaning_4 : decode cX4_isMeaning 4 = .ok (.iload_n 0, 1) := by decide +kernel
theorem dX4_isMeaning_5 : decode cX4_isMeaning 5 = .ok (.bipush 6, 2) := by decide +kernel
theorem dX4_isMeaning_7 : decode cX4_isMeaning 7 = .ok (.if_icmp .ge 7, 3) := by decide +kernel
theorem dX4_isMeaning_10 : decode cX4_isMeaning 10 = .ok (.iconst 1, 1) := by decide +kernel
theorem dX4_isMeaning_11 : decode cX4_isMeaning 11 = .ok (.goto 4, 3) := by decide +kernel
theorem dX4_isMeaning_14 : decode cX4_isMeaning 14 = .ok (.iconst 0, 1) := by decide +kernel
theorem dX4_isMeaning_15 : decode cX4_isMeaning 15 = .ok (.ireturn, 1) := by decide +kernel
theorem dX4_isWord_0 : decode cX4_isWord 0 = .ok (.iload_n 0, 1) := by decide +kernel
theorem dX4_isWord_1 : decode cX4_isWord 1 = .ok (.ifCond .lt 13, 3) := by decide +kernel
theorem dX4_isWord_4 : decode cX4_isWord 4 = .ok (.iload_n 0, 1) := by decide +kernel
theorem dX4_isWord_5 : decode cX4_isWord 5 = .ok (.bipush 14, 2) := by decide +kernel
theorem dX4_isWord_7 : decode cX4_isWord 7 = .ok (.if_icmp .ge 7, 3) := by decide +kernel
theorem dX4_isWord_10 : decode cX4_isWord 10 = .ok (.iconst 1, 1) := by decide +kernel
theorem dX4_isWord_11 : decode cX4_isWord 11 = .ok (.goto 4, 3) := by decide +kernel
theorem dX4_isWord_14 : decode cX4_isWord 14 = .ok (.iconst 0, 1) := by decide +kernel
theorem dX4_isWord_15 : decode cX4_isWord 15 = .ok (.ireturn, 1) := by decide +kernel
theorem dX4_leastOf_0 : decode cX4_leastOf 0 = .ok (.iload_n 0, 1) := by decide +kernel
theorem dX4_leastOf_1 : decode cX4_leastOf 1 = .ok (.lookupswitch 31 #[(0, 27), (2, 29)], 27) := by decide +kernel
theorem dX4_leastOf_28 : decode cX4_leastOf 28 = .ok (.iconst 1, 1) := by decide +kernel
theorem dX4_leastOf_29 : decode cX4_leastOf 29 = .ok (.ireturn, 1) := by decide +kernel
theorem dX4_leastOf_30 : decode cX4_leastOf 30 = .ok (.iconst 5, 1) := by decide +kernel
theorem dX4_leastOf_31 : decode cX4_leastOf 31 = .ok (.ireturn, 1) := by decide +kernel
theorem dX4_leastOf_32 : decode cX4_leastOf 32 = .ok (.iconst 0, 1) := by decide +kernel
theorem dX4_leastOf_33 : decode cX4_leastOf 33 = .ok (.ireturn, 1) := by decide +kernel
theorem dX4_mostOf_0 : decode cX4_mostOf 0 = .ok (.iload_n 0, 1) := by decide +kernel
theorem dX4_mostOf_1 : decode cX4_mostOf 1 = .ok (.lookupswitch 33 #[(2, 27), (3, 30)], 27) := by decide +kernel
theorem dX4_mostOf_28 : decode cX4_mostOf 28 = .ok (.bipush 99, 2) := by decide +kernel
theorem dX4_mostOf_30 : decode cX4_mostOf 30 = .ok (.ireturn, 1) := by decide +kernel
theorem dX4_mostOf_31 : decode cX4_mostOf 31 = .ok (.bipush 100, 2) := by decide +kernel
theorem dX4_mostOf_33 : decode cX4_mostOf 33 = .ok (.ireturn, 1) := by decide +kernel
theorem dX4_mostOf_34 : decode cX4_mostOf 34 = .ok (.bipush 9, 2) := by decide +kernel
theorem dX4_mostOf_36 : decode cX4_mostOf 36 = .ok (.ireturn, 1) := by decide +kernel
theorem dX4_codeOfWord_0 : decode cX4_codeOfWord 0 = .ok (.iload_n 0, 1) := by decide +kernel
theorem dX4_codeOfWord_1 : decode cX4_codeOfWord 1 = .ok (.iconst 2, 1) := by decide +kernel
theorem dX4_codeOfWord_2 : decode cX4_codeOfWord 2 = .ok (.iadd, 1) := by decide +kernel
theorem dX4_codeOfWord_3 : decode cX4_codeOfWord 3 = .ok (.ireturn, 1) := by decide +kernel
theorem dX4_wordOfCode_0 : decode cX4_wordOfCode 0 = .ok (.iload_n 0, 1) := by decide +kernel
theorem dX4_wordOfCode_1 : decode cX4_wordOfCode 1 = .ok (.iconst 2, 1) := by decide +kernel
theorem dX4_wordOfCode_2 : decode cX4_wordOfCode 2 = .ok (.isub, 1) := by decide +kernel
theorem dX4_wordOfCode_3 : decode cX4_wordOfCode 3 = .ok (.ireturn, 1) := by decide +kernel
theorem dX4_lengthOfWord_0 : decode cX4_lengthOfWord 0 = .ok (.iload_n 0, 1) := by decide +kernel
theorem dX4_lengthOfWord_1 : decode cX4_lengthOfWord 1 = .ok (.invokestatic 127, 3) := by decide +kernel
theorem dX4_lengthOfWord_4 : decode cX4_lengthOfWord 4 = .ok (.istore_n 1, 1) := by decide +kernel
theorem dX4_lengthOfWord_5 : decode cX4_lengthOfWord 5 = .ok (.iload_n 1, 1) := by decide +kernel
theorem dX4_lengthOfWord_6 : decode cX4_lengthOfWord 6 = .ok (.iconst 4, 1) := by decide +kernel
theorem dX4_lengthOfWord_7 : decode cX4_lengthOfWord 7 = .ok (.if_icmp .ge 5, 3) := by decide +kernel
theorem dX4_lengthOfWord_10 : decode cX4_lengthOfWord 10 = .ok (.iconst 1, 1) := by decide +kernel
theorem dX4_lengthOfWord_11 : decode cX4_lengthOfWord 11 = .ok (.ireturn, 1) := by decide +kernel
theorem dX4_lengthOfWord_12 : decode cX4_lengthOfWord 12 = .ok (.iload_n 1, 1) := by decide +kernel
theorem dX4_lengthOfWord_13 : decode cX4_lengthOfWord 13 = .ok (.bipush 8, 2) := by decide +kernel
theorem dX4_lengthOfWord_15 : decode cX4_lengthOfWord 15 = .ok (.if_icmp .ge 7, 3) := by decide +kernel
theorem dX4_lengthOfWord_18 : decode cX4_lengthOfWord 18 = .ok (.iconst 2, 1) := by decide +kernel
theorem dX4_lengthOfWord_19 : decode cX4_lengthOfWord 19 = .ok (.goto 4, 3) := by decide +kernel
theorem dX4_lengthOfWord_22 : decode cX4_lengthOfWord 22 = .ok (.iconst 3, 1) := by decide +kernel
theorem dX4_lengthOfWord_23 : decode cX4_lengthOfWord 23 = .ok (.ireturn, 1) := by decide +kernel
theorem dX5_init_0 : decode cX5_init 0 = .ok (.aload_n 0, 1) := by decide +kernel
theorem dX5_init_1 : decode cX5_init 1 = .ok (.invokespecial 1, 3) := by decide +kernel
theorem dX5_init_4 : decode cX5_init 4 = .ok (.aload_n 0, 1) := by decide +kernel
theorem dX5_init_5 : decode cX5_init 5 = .ok (.sipush 705, 3) := by decide +kernel
theorem dX5_init_8 : decode cX5_init 8 = .ok (.newarray .int, 2) := by decide +kernel
theorem dX5_init_10 : decode cX5_init 10 = .ok (.putfield 7, 3) := by decide +kernel
theorem dX5_init_13 : decode cX5_init 13 = .ok (.aload_n 0, 1) := by decide +kernel
theorem dX5_init_14 : decode cX5_init 14 = .ok (.sipush 705, 3) := by decide +kernel
theorem dX5_init_17 : decode cX5_init 17 = .ok (.newarray .int, 2) := by decide +kernel
theorem dX5_init_19 : decode cX5_init 19 = .ok (.putfield 13, 3) := by decide +kernel
theorem dX5_init_22 : decode cX5_init 22 = .ok (.aload_n 0, 1) := by decide +kernel
theorem dX5_init_23 : decode cX5_init 23 = .ok (.sipush 4230, 3) := by decide +kernel
theorem dX5_init_26 : decode cX5_init 26 = .ok (.newarray .int, 2) := by decide +kernel
theorem dX5_init_28 : decode cX5_init 28 = .ok (.putfield 16, 3) := by decide +kernel
theorem dX5_init_31 : decode cX5_init 31 = .ok (.aload_n 0, 1) := by decide +kernel
theorem dX5_init_32 : decode cX5_init 32 = .ok (.bipush 80, 2) := by decide +kernel
theorem dX5_init_34 : decode cX5_init 34 = .ok (.newarray .int, 2) := by decide +kernel
theorem dX5_init_36 : decode cX5_init 36 = .ok (.putfield 19, 3) := by decide +kernel
theorem dX5_init_39 : decode cX5_init 39 = .ok (.aload_n 0, 1) := by decide +kernel
theorem dX5_init_40 : decode cX5_init 40 = .ok (.getfield 7, 3) := by decide +kernel
theorem dX5_init_43 : decode cX5_init 43 = .ok (.iconst 0, 1) := by decide +kernel
theorem dX5_init_44 : decode cX5_init 44 = .ok (.iconst 1, 1) := by decide +kernel
theorem dX5_init_45 : decode cX5_init 45 = .ok (.iastore, 1) := by decide +kernel
theorem dX5_init_46 : decode cX5_init 46 = .ok (.aload_n 0, 1) := by decide +kernel
theorem dX5_init_47 : decode cX5_init 47 = .ok (.getfield 7, 3) := by decide +kernel
theorem dX5_init_50 : decode cX5_init 50 = .ok (.iconst 5, 1) := by decide +kernel
theorem dX5_init_51 : decode cX5_init 51 = .ok (.iconst 4, 1) := by decide +kernel
theorem dX5_init_52 : decode cX5_init 52 = .ok (.iastore, 1) := by decide +kernel
theorem dX5_init_53 : decode cX5_init 53 = .ok (.aload_n 0, 1) := by decide +kernel
theorem dX5_init_54 : decode cX5_init 54 = .ok (.getfield 7, 3) := by decide +kernel
theorem dX5_init_57 : decode cX5_init 57 = .ok (.bipush 6, 2) := by decide +kernel
theorem dX5_init_59 : decode cX5_init 59 = .ok (.iconst 1, 1) := by decide +kernel
theorem dX5_init_60 : decode cX5_init 60 = .ok (.iastore, 1) := by decide +kernel
theorem dX5_init_61 : decode cX5_init 61 = .ok (.aload_n 0, 1) := by decide +kernel
theorem dX5_init_62 : decode cX5_init 62 = .ok (.getfield 7, 3) := by decide +kernel
theorem dX5_init_65 : decode cX5_init 65 = .ok (.bipush 7, 2) := by decide +kernel
theorem dX5_init_67 : decode cX5_init 67 = .ok (.bipush 60, 2) := by decide +kernel
theorem dX5_init_69 : decode cX5_init 69 = .ok (.iastore, 1) := by decide +kernel
theorem dX5_init_70 : decode cX5_init 70 = .ok (.aload_n 0, 1) := by decide +kernel
theorem dX5_init_71 : decode cX5_init 71 = .ok (.getfield 7, 3) := by decide +kernel
theorem dX5_init_74 : decode cX5_init 74 = .ok (.bipush 8, 2) := by decide +kernel
theorem dX5_init_76 : decode cX5_init 76 = .ok (.bipush 50, 2) := by decide +kernel
theorem dX5_init_78 : decode cX5_init 78 = .ok (.iastore, 1) := by decide +kernel
theorem dX5_init_79 : decode cX5_init 79 = .ok (.return_, 1) := by decide +kernel
theorem dX5_within_0 : decode cX5_within 0 = .ok (.iload_n 0, 1) := by decide +kernel
theorem dX5_within_1 : decode cX5_within 1 = .ok (.iload_n 1, 1) := by decide +kernel
theorem dX5_within_2 : decode cX5_within 2 = .ok (.if_icmp .lt 12, 3) := by decide +kernel
theorem dX5_within_5 : decode cX5_within 5 = .ok (.iload_n 0, 1) := by decide +kernel
theorem dX5_within_6 : decode cX5_within 6 = .ok (.iload_n 2, 1) := by decide +kernel
theorem dX5_within_7 : decode cX5_within 7 = .ok (.if_icmp .gt 7, 3) := by decide +kernel
theorem dX5_within_10 : decode cX5_within 10 = .ok (.iconst 1, 1) := by decide +kernel
theorem dX5_within_11 : decode cX5_within 11 = .ok (.goto 4, 3) := by decide +kernel
theorem dX5_within_14 : decode cX5_within 14 = .ok (.iconst 0, 1) := by decide +kernel
theorem dX5_within_15 : decode cX5_within 15 = .ok (.ireturn, 1) := by decide +kernel
theorem dX5_copies_0 : decode cX5_copies 0 = .ok (.iconst 0, 1) := by decide +kernel
theorem dX5_copies_1 : decode cX5_copies 1 = .ok (.istore 4, 2) := by decide +kernel
theorem dX5_copies_3 : decode cX5_copies 3 = .ok (.iload 4, 2) := by decide +kernel
theorem dX5_copies_5 : decode cX5_copies 5 = .ok (.sipush 705, 3) := by decide +kernel
theorem dX5_copies_8 : decode cX5_copies 8 = .ok (.if_icmp .ge 21, 3) := by decide +kernel
theorem dX5_copies_11 : decode cX5_copies 11 = .ok (.aload_n 2, 1) := by decide +kernel
theorem dX5_copies_12 : decode cX5_copies 12 = .ok (.iload_n 3, 1) := by decide +kernel
theorem dX5_copies_13 : decode cX5_copies 13 = .ok (.iload 4, 2) := by decide +kernel
theorem dX5_copies_15 : decode cX5_copies 15 = .ok (.iadd, 1) := by decide +kernel
theorem dX5_copies_16 : decode cX5_copies 16 = .ok (.aload_n 0, 1) := by decide +kernel
theorem dX5_copies_17 : decode cX5_copies 17 = .ok (.iload_n 1, 1) := by decide +kernel
theorem dX5_copies_18 : decode cX5_copies 18 = .ok (.iload 4, 2) := by decide +kernel
theorem dX5_copies_20 : decode cX5_copies 20 = .ok (.iadd, 1) := by decide +kernel
theorem dX5_copies_21 : decode cX5_copies 21 = .ok (.iaload, 1) := by decide +kernel
theorem dX5_copies_22 : decode cX5_copies 22 = .ok (.iastore, 1) := by decide +kernel
theorem dX5_copies_23 : decode cX5_copies 23 = .ok (.iinc 4 1, 3) := by decide +kernel
theorem dX5_copies_26 : decode cX5_copies 26 = .ok (.goto (-23), 3) := by decide +kernel
theorem dX5_copies_29 : decode cX5_copies 29 = .ok (.return_, 1) := by decide +kernel
theorem dX5_record_0 : decode cX5_record 0 = .ok (.aload_n 0, 1) := by decide +kernel
theorem dX5_record_1 : decode cX5_record 1 = .ok (.getfield 22, 3) := by decide +kernel
theorem dX5_record_4 : decode cX5_record 4 = .ok (.bipush 6, 2) := by decide +kernel
theorem dX5_record_6 : decode cX5_record 6 = .ok (.if_icmp .ne 44, 3) := by decide +kernel
theorem dX5_record_9 : decode cX5_record 9 = .ok (.iconst 0, 1) := by decide +kernel
theorem dX5_record_10 : decode cX5_record 10 = .ok (.istore_n 1, 1) := by decide +kernel
theorem dX5_record_11 : decode cX5_record 11 = .ok (.iload_n 1, 1) := by decide +kernel
theorem dX5_record_12 : decode cX5_record 12 = .ok (.sipush 3525, 3) := by decide +kernel
theorem dX5_record_15 : decode cX5_record 15 = .ok (.if_icmp .ge 25, 3) := by decide +kernel
theorem dX5_record_18 : decode cX5_record 18 = .ok (.aload_n 0, 1) := by decide +kernel
theorem dX5_record_19 : decode cX5_record 19 = .ok (.getfield 16, 3) := by decide +kernel
theorem dX5_record_22 : decode cX5_record 22 = .ok (.iload_n 1, 1) := by decide +kernel
theorem dX5_record_23 : decode cX5_record 23 = .ok (.aload_n 0, 1) := by decide +kernel
theorem dX5_record_24 : decode cX5_record 24 = .ok (.getfield 16, 3) := by decide +kernel
theorem dX5_record_27 : decode cX5_record 27 = .ok (.iload_n 1, 1) := by decide +kernel
theorem dX5_record_28 : decode cX5_record 28 = .ok (.sipush 705, 3) := by decide +kernel
theorem dX5_record_31 : decode cX5_record 31 = .ok (.iadd, 1) := by decide +kernel
theorem dX5_record_32 : decode cX5_record 32 = .ok (.iaload, 1) := by decide +kernel
theorem dX5_record_33 : decode cX5_record 33 = .ok (.iastore, 1) := by decide +kernel
theorem dX5_record_34 : decode cX5_record 34 = .ok (.iinc 1 1, 3) := by decide +kernel
theorem dX5_record_37 : decode cX5_record 37 = .ok (.goto (-26), 3) := by decide +kernel
theorem dX5_record_40 : decode cX5_record 40 = .ok (.aload_n 0, 1) := by decide +kernel
theorem dX5_record_41 : decode cX5_record 41 = .ok (.dup, 1) := by decide +kernel
theorem dX5_record_42 : decode cX5_record 42 = .ok (.getfield 22, 3) := by decide +kernel
theorem dX5_record_45 : decode cX5_record 45 = .ok (.iconst 1, 1) := by decide +kernel
theorem dX5_record_46 : decode cX5_record 46 = .ok (.isub, 1) := by decide +kernel
theorem dX5_record_47 : decode cX5_record 47 = .ok (.putfield 22, 3) := by decide +kernel
theorem dX5_record_50 : decode cX5_record 50 = .ok (.aload_n 0, 1) := by decide +kernel
theorem dX5_record_51 : decode cX5_record 51 = .ok (.getfield 7, 3) := by decide +kernel
theorem dX5_record_54 : decode cX5_record 54 = .ok (.iconst 0, 1) := by decide +kernel
theorem dX5_record_55 : decode cX5_record 55 = .ok (.aload_n 0, 1) := by decide +kernel
theorem dX5_record_56 : decode cX5_record 56 = .ok (.getfield 16, 3) := by decide +kernel
theorem dX5_record_59 : decode cX5_record 59 = .ok (.aload_n 0, 1) := by decide +kernel
theorem dX5_record_60 : decode cX5_record 60 = .ok (.getfield 22, 3) := by decide +kernel
theorem dX5_record_63 : decode cX5_record 63 = .ok (.sipush 705, 3) := by decide +kernel
theorem dX5_record_66 : decode cX5_record 66 = .ok (.imul, 1) := by decide +kernel
theorem dX5_record_67 : decode cX5_record 67 = .ok (.invokestatic 26, 3) := by decide +kernel
theorem dX5_record_70 : decode cX5_record 70 = .ok (.aload_n 0, 1) := by decide +kernel
theorem dX5_record_71 : decode cX5_record 71 = .ok (.dup, 1) := by decide +kernel
theorem dX5_record_72 : decode cX5_record 72 = .ok (.getfield 22, 3) := by decide +kernel
theorem dX5_record_75 : decode cX5_record 75 = .ok (.iconst 1, 1) := by decide +kernel
theorem dX5_record_76 : decode cX5_record 76 = .ok (.iadd, 1) := by decide +kernel
theorem dX5_record_77 : decode cX5_record 77 = .ok (.putfield 22, 3) := by decide +kernel
theorem dX5_record_80 : decode cX5_record 80 = .ok (.return_, 1) := by decide +kernel
theorem dX5_part_0 : decode cX5_part 0 = .ok (.aload_n 0, 1) := by decide +kernel
theorem dX5_part_1 : decode cX5_part 1 = .ok (.getfield 7, 3) := by decide +kernel
theorem dX5_part_4 : decode cX5_part 4 = .ok (.bipush 9, 2) := by decide +kernel
theorem dX5_part_6 : decode cX5_part 6 = .ok (.iconst 3, 1) := by decide +kernel
theorem dX5_part_7 : decode cX5_part 7 = .ok (.iload_n 1, 1) := by decide +kernel
theorem dX5_part_8 : decode cX5_part 8 = .ok (.imul, 1) := by decide +kernel
theorem dX5_part_9 : decode cX5_part 9 = .ok (.iadd, 1) := by decide +kernel
theorem dX5_part_10 : decode cX5_part 10 = .ok (.iload_n 2, 1) := by decide +kernel
theorem dX5_part_11 : decode cX5_part 11 = .ok (.iadd, 1) := by decide +kernel
theorem dX5_part_12 : decode cX5_part 12 = .ok (.iaload, 1) := by decide +kernel
theorem dX5_part_13 : decode cX5_part 13 = .ok (.ireturn, 1) := by decide +kernel
theorem dX5_setPart_0 : decode cX5_setPart 0 = .ok (.aload_n 0, 1) := by decide +kernel
theorem dX5_setPart_1 : decode cX5_setPart 1 = .ok (.getfield 7, 3) := by decide +kernel
theorem dX5_setPart_4 : decode cX5_setPart 4 = .ok (.bipush 9, 2) := by decide +kernel
theorem dX5_setPart_6 : decode cX5_setPart 6 = .ok (.iconst 3, 1) := by decide +kernel
theorem dX5_setPart_7 : decode cX5_setPart 7 = .ok (.iload_n 1, 1) := by decide +kernel
theorem dX5_setPart_8 : decode cX5_setPart 8 = .ok (.imul, 1) := by decide +kernel
theorem dX5_setPart_9 : decode cX5_setPart 9 = .ok (.iadd, 1) := by decide +kernel
theorem dX5_setPart_10 : decode cX5_setPart 10 = .ok (.iload_n 2, 1) := by decide +kernel
theorem dX5_setPart_11 : decode cX5_setPart 11 = .ok (.iadd, 1) := by decide +kernel
theorem dX5_setPart_12 : decode cX5_setPart 12 = .ok (.iload_n 3, 1) := by decide +kernel
theorem dX5_setPart_13 : decode cX5_setPart 13 = .ok (.iastore, 1) := by decide +kernel
theorem dX5_setPart_14 : decode cX5_setPart 14 = .ok (.return_, 1) := by decide +kernel
theorem dX5_isSpeaker_0 : decode cX5_isSpeaker 0 = .ok (.iload_n 1, 1) := by decide +kernel
theorem dX5_isSpeaker_1 : decode cX5_isSpeaker 1 = .ok (.iconst 0, 1) := by decide +kernel
theorem dX5_isSpeaker_2 : decode cX5_isSpeaker 2 = .ok (.bipush 7, 2) := by decide +kernel
theorem dX5_isSpeaker_4 : decode cX5_isSpeaker 4 = .ok (.invokestatic 30, 3) := by decide +kernel
theorem dX5_isSpeaker_7 : decode cX5_isSpeaker 7 = .ok (.ifCond .eq 17, 3) := by decide +kernel
theorem dX5_isSpeaker_10 : decode cX5_isSpeaker 10 = .ok (.aload_n 0, 1) := by decide +kernel
theorem dX5_isSpeaker_11 : decode cX5_isSpeaker 11 = .ok (.iload_n 1, 1) := by decide +kernel
theorem dX5_isSpeaker_12 : decode cX5_isSpeaker 12 = .ok (.iconst 0, 1) := by decide +kernel
theorem dX5_isSpeaker_13 : decode cX5_isSpeaker 13 = .ok (.invokevirtual 34, 3) := by decide +kernel
theorem dX5_isSpeaker_16 : decode cX5_isSpeaker 16 = .ok (.iconst 1, 1) := by decide +kernel
theorem dX5_isSpeaker_17 : decode cX5_isSpeaker 17 = .ok (.if_icmp .ne 7, 3) := by decide +kernel
theorem dX5_isSpeaker_20 : decode cX5_isSpeaker 20 = .ok (.iconst 1, 1) := by decide +kernel
theorem dX5_isSpeaker_21 : decode cX5_isSpeaker 21 = .ok (.goto 4, 3) := by decide +kernel
theorem dX5_isSpeaker_24 : decode cX5_isSpeaker 24 = .ok (.iconst 0, 1) := by decide +kernel
theorem dX5_isSpeaker_25 : decode cX5_isSpeaker 25 = .ok (.ireturn, 1) := by decide +kernel
theorem dX5_isMeaning_0 : decode cX5_isMeaning 0 = .ok (.iload_n 0, 1) := by decide +kernel
theorem dX5_isMeaning_1 : decode cX5_isMeaning 1 = .ok (.iconst 0, 1) := by decide +kernel
theorem dX5_isMeaning_2 : decode cX5_isMeaning 2 = .ok (.iconst 5, 1) := by decide +kernel
theorem dX5_isMeaning_3 : decode cX5_isMeaning 3 = .ok (.invokestatic 30, 3) := by decide +kernel
theorem dX5_isMeaning_6 : decode cX5_isMeaning 6 = .ok (.ireturn, 1) := by decide +kernel
theorem dX5_isWord_0 : decode cX5_isWord 0 = .ok (.iload_n 0, 1) := by decide +kernel
theorem dX5_isWord_1 : decode cX5_isWord 1 = .ok (.iconst 0, 1) := by decide +kernel
theorem dX5_isWord_2 : decode cX5_isWord 2 = .ok (.bipush 13, 2) := by decide +kernel
theorem dX5_isWord_4 : decode cX5_isWord 4 = .ok (.invokestatic 30, 3) := by decide +kernel
theorem dX5_isWord_7 : decode cX5_isWord 7 = .ok (.ireturn, 1) := by decide +kernel
theorem dX5_weightAt_0 : decode cX5_weightAt 0 = .ok (.bipush 33, 2) := by decide +kernel
theorem dX5_weightAt_2 : decode cX5_weightAt 2 = .ok (.bipush 84, 2) := by decide +kernel
theorem dX5_weightAt_4 : decode cX5_weightAt 4 = .ok (.iload_n 0, 1) := by decide +kernel
theorem dX5_weightAt_5 : decode cX5_weightAt 5 = .ok (.imul, 1) := by decide +kernel
theorem dX5_weightAt_6 : decode cX5_weightAt 6 = .ok (.iadd, 1) := by decide +kernel
theorem dX5_weightAt_7 : decode cX5_weightAt 7 = .ok (.bipush 14, 2) := by decide +kernel
theorem dX5_weightAt_9 : decode cX5_weightAt 9 = .ok (.iload_n 1, 1) := by decide +kernel
theorem dX5_weightAt_10 : decode cX5_weightAt 10 = .ok (.imul, 1) := by decide +kernel
theorem dX5_weightAt_11 : decode cX5_weightAt 11 = .ok (.iadd, 1) := by decide +kernel
theorem dX5_weightAt_12 : decode cX5_weightAt 12 = .ok (.iload_n 2, 1) := by decide +kernel
theorem dX5_weightAt_13 : decode cX5_weightAt 13 = .ok (.iadd, 1) := by decide +kernel
theorem dX5_weightAt_14 : decode cX5_weightAt 14 = .ok (.ireturn, 1) := by decide +kernel
theorem dX5_weightOf_0 : decode cX5_weightOf 0 = .ok (.aload_n 0, 1) := by decide +kernel
theorem dX5_weightOf_1 : decode cX5_weightOf 1 = .ok (.getfield 7, 3) := by decide +kernel
theorem dX5_weightOf_4 : decode cX5_weightOf 4 = .ok (.iload_n 1, 1) := by decide +kernel
theorem dX5_weightOf_5 : decode cX5_weightOf 5 = .ok (.iload_n 2, 1) := by decide +kernel
theorem dX5_weightOf_6 : decode cX5_weightOf 6 = .ok (.iload_n 3, 1) := by decide +kernel
theorem dX5_weightOf_7 : decode cX5_weightOf 7 = .ok (.invokestatic 38, 3) := by decide +kernel
theorem dX5_weightOf_10 : decode cX5_weightOf 10 = .ok (.iaload, 1) := by decide +kernel
theorem dX5_weightOf_11 : decode cX5_weightOf 11 = .ok (.ireturn, 1) := by decide +kernel
theorem dX5_changes_0 : decode cX5_changes 0 = .ok (.aload_n 0, 1) := by decide +kernel
theorem dX5_changes_1 : decode cX5_changes 1 = .ok (.iload_n 1, 1) := by decide +kernel
theorem dX5_changes_2 : decode cX5_changes 2 = .ok (.iload_n 2, 1) := by decide +kernel
theorem dX5_changes_3 : decode cX5_changes 3 = .ok (.iload_n 3, 1) := by decide +kernel
theorem dX5_changes_4 : decode cX5_changes 4 = .ok (.invokevirtual 42, 3) := by decide +kernel
theorem dX5_changes_7 : decode cX5_changes 7 = .ok (.iload 4, 2) := by decide +kernel
theorem dX5_changes_9 : decode cX5_changes 9 = .ok (.iadd, 1) := by decide +kernel
theorem dX5_changes_10 : decode cX5_changes 10 = .ok (.istore 5, 2) := by decide +kernel
theorem dX5_changes_12 : decode cX5_changes 12 = .ok (.aload_n 0, 1) := by decide +kernel
theorem dX5_changes_13 : decode cX5_changes 13 = .ok (.getfield 7, 3) := by decide +kernel
theorem dX5_changes_16 : decode cX5_changes 16 = .ok (.iload_n 1, 1) := by decide +kernel
theorem dX5_changes_17 : decode cX5_changes 17 = .ok (.iload_n 2, 1) := by decide +kernel
theorem dX5_changes_18 : decode cX5_changes 18 = .ok (.iload_n 3, 1) := by decide +kernel
theorem dX5_changes_19 : decode cX5_changes 19 = .ok (.invokestatic 38, 3) := by decide +kernel
theorem dX5_changes_22 : decode cX5_changes 22 = .ok (.iload 5, 2) := by decide +kernel
theorem dX5_changes_24 : decode cX5_changes 24 = .ok (.ifCond .ge 7, 3) := by decide +kernel
theorem dX5_changes_27 : decode cX5_changes 27 = .ok (.iconst 0, 1) := by decide +kernel
theorem dX5_changes_28 : decode cX5_changes 28 = .ok (.goto 17, 3) := by decide +kernel
theorem dX5_changes_31 : decode cX5_changes 31 = .ok (.iload 5, 2) := by decide +kernel
theorem dX5_changes_33 : decode cX5_changes 33 = .ok (.bipush 99, 2) := by decide +kernel
theorem dX5_changes_35 : decode cX5_changes 35 = .ok (.if_icmp .le 8, 3) := by decide +kernel
theorem dX5_changes_38 : decode cX5_changes 38 = .ok (.bipush 99, 2) := by decide +kernel
theorem dX5_changes_40 : decode cX5_changes 40 = .ok (.goto 5, 3) := by decide +kernel
theorem dX5_changes_43 : decode cX5_changes 43 = .ok (.iload 5, 2) := by decide +kernel
theorem dX5_changes_45 : decode cX5_changes 45 = .ok (.iastore, 1) := by decide +kernel
theorem dX5_changes_46 : decode cX5_changes 46 = .ok (.return_, 1) := by decide +kernel
theorem dX5_speakers_0 : decode cX5_speakers 0 = .ok (.iconst 0, 1) := by decide +kernel
theorem dX5_speakers_1 : decode cX5_speakers 1 = .ok (.istore_n 1, 1) := by decide +kernel
theorem dX5_speakers_2 : decode cX5_speakers 2 = .ok (.iconst 0, 1) := by decide +kernel
theorem dX5_speakers_3 : decode cX5_speakers 3 = .ok (.istore_n 2, 1) := by decide +kernel
theorem dX5_speakers_4 : decode cX5_speakers 4 = .ok (.iload_n 2, 1) := by decide +kernel
theorem dX5_speakers_5 : decode cX5_speakers 5 = .ok (.bipush 8, 2) := by decide +kernel
theorem dX5_speakers_7 : decode cX5_speakers 7 = .ok (.if_icmp .ge 25, 3) := by decide +kernel
theorem dX5_speakers_10 : decode cX5_speakers 10 = .ok (.iload_n 1, 1) := by decide +kernel
theorem dX5_speakers_11 : decode cX5_speakers 11 = .ok (.aload_n 0, 1) := by decide +kernel
theorem dX5_speakers_12 : decode cX5_speakers 12 = .ok (.iload_n 2, 1) := by decide +kernel
theorem dX5_speakers_13 : decode cX5_speakers 13 = .ok (.invokevirtual 45, 3) := by decide +kernel
theorem dX5_speakers_16 : decode cX5_speakers 16 = .ok (.ifCond .eq 7, 3) := by decide +kernel
theorem dX5_speakers_19 : decode cX5_speakers 19 = .ok (.iconst 1, 1) := by decide +kernel
theorem dX5_speakers_20 : decode cX5_speakers 20 = .ok (.goto 4, 3) := by decide +kernel
theorem dX5_speakers_23 : decode cX5_speakers 23 = .ok (.iconst 0, 1) := by decide +kernel
theorem dX5_speakers_24 : decode cX5_speakers 24 = .ok (.iadd, 1) := by decide +kernel
theorem dX5_speakers_25 : decode cX5_speakers 25 = .ok (.istore_n 1, 1) := by decide +kernel
theorem dX5_speakers_26 : decode cX5_speakers 26 = .ok (.iinc 2 1, 3) := by decide +kernel
theorem dX5_speakers_29 : decode cX5_speakers 29 = .ok (.goto (-25), 3) := by decide +kernel
theorem dX5_speakers_32 : decode cX5_speakers 32 = .ok (.iload_n 1, 1) := by decide +kernel
theorem dX5_speakers_33 : decode cX5_speakers 33 = .ok (.ireturn, 1) := by decide +kernel
theorem dX5_speakerAt_0 : decode cX5_speakerAt 0 = .ok (.bipush (-6), 2) := by decide +kernel
theorem dX5_speakerAt_2 : decode cX5_speakerAt 2 = .ok (.istore_n 3, 1) := by decide +kernel
theorem dX5_speakerAt_3 : decode cX5_speakerAt 3 = .ok (.iload_n 1, 1) := by decide +kernel
theorem dX5_speakerAt_4 : decode cX5_speakerAt 4 = .ok (.istore 4, 2) := by decide +kernel
theorem dX5_speakerAt_6 : decode cX5_speakerAt 6 = .ok (.iconst 0, 1) := by decide +kernel
theorem dX5_speakerAt_7 : decode cX5_speakerAt 7 = .ok (.istore 5, 2) := by decide +kernel
theorem dX5_speakerAt_9 : decode cX5_speakerAt 9 = .ok (.iload 5, 2) := by decide +kernel
theorem dX5_speakerAt_11 : decode cX5_speakerAt 11 = .ok (.bipush 8, 2) := by decide +kernel
theorem dX5_speakerAt_13 : decode cX5_speakerAt 13 = .ok (.if_icmp .ge 46, 3) := by decide +kernel
theorem dX5_speakerAt_16 : decode cX5_speakerAt 16 = .ok (.iload_n 3, 1) := by decide +kernel
theorem dX5_speakerAt_17 : decode cX5_speakerAt 17 = .ok (.bipush (-6), 2) := by decide +kernel
theorem dX5_speakerAt_19 : decode cX5_speakerAt 19 = .ok (.if_icmp .ne 40, 3) := by decide +kernel
theorem dX5_speakerAt_22 : decode cX5_speakerAt 22 = .ok (.aload_n 0, 1) := by decide +kernel
theorem dX5_speakerAt_23 : decode cX5_speakerAt 23 = .ok (.iload 5, 2) := by decide +kernel
theorem dX5_speakerAt_25 : decode cX5_speakerAt 25 = .ok (.invokevirtual 45, 3) := by decide +kernel
theorem dX5_speakerAt_28 : decode cX5_speakerAt 28 = .ok (.ifCond .eq 25, 3) := by decide +kernel
theorem dX5_speakerAt_31 : decode cX5_speakerAt 31 = .ok (.iload 5, 2) := by decide +kernel
theorem dX5_speakerAt_33 : decode cX5_speakerAt 33 = .ok (.iload_n 2, 1) := by decide +kernel
theorem dX5_speakerAt_34 : decode cX5_speakerAt 34 = .ok (.if_icmp .eq 19, 3) := by decide +kernel
theorem dX5_speakerAt_37 : decode cX5_speakerAt 37 = .ok (.iload 4, 2) := by decide +kernel
theorem dX5_speakerAt_39 : decode cX5_speakerAt 39 = .ok (.ifCond .ne 8, 3) := by decide +kernel
theorem dX5_speakerAt_42 : decode cX5_speakerAt 42 = .ok (.iload 5, 2) := by decide +kernel
theorem dX5_speakerAt_44 : decode cX5_speakerAt 44 = .ok (.goto 5, 3) := by decide +kernel
theorem dX5_speakerAt_47 : decode cX5_speakerAt 47 = .ok (.bipush (-6), 2) := by decide +kernel
theorem dX5_speakerAt_49 : decode cX5_speakerAt 49 = .ok (.istore_n 3, 1) := by decide +kernel
theorem dX5_speakerAt_50 : decode cX5_speakerAt 50 = .ok (.iinc 4 (-1), 3) := by decide +kernel
theorem dX5_speakerAt_53 : decode cX5_speakerAt 53 = .ok (.iinc 5 1, 3) := by decide +kernel
theorem dX5_speakerAt_56 : decode cX5_speakerAt 56 = .ok (.goto (-47), 3) := by decide +kernel
theorem dX5_speakerAt_59 : decode cX5_speakerAt 59 = .ok (.iload_n 3, 1) := by decide +kernel
theorem dX5_speakerAt_60 : decode cX5_speakerAt 60 = .ok (.ireturn, 1) := by decide +kernel
theorem dX5_wordFor_0 : decode cX5_wordFor 0 = .ok (.bipush (-6), 2) := by decide +kernel
theorem dX5_wordFor_2 : decode cX5_wordFor 2 = .ok (.istore_n 3, 1) := by decide +kernel
theorem dX5_wordFor_3 : decode cX5_wordFor 3 = .ok (.iconst 0, 1) := by decide +kernel
theorem dX5_wordFor_4 : decode cX5_wordFor 4 = .ok (.istore 4, 2) := by decide +kernel
theorem dX5_wordFor_6 : decode cX5_wordFor 6 = .ok (.iconst 0, 1) := by decide +kernel
theorem dX5_wordFor_7 : decode cX5_wordFor 7 = .ok (.istore 5, 2) := by decide +kernel
theorem dX5_wordFor_9 : decode cX5_wordFor 9 = .ok (.iload 5, 2) := by decide +kernel
theorem dX5_wordFor_11 : decode cX5_wordFor 11 = .ok (.bipush 14, 2) := by decide +kernel
theorem dX5_wordFor_13 : decode cX5_wordFor 13 = .ok (.if_icmp .ge 49, 3) := by decide +kernel
theorem dX5_wordFor_16 : decode cX5_wordFor 16 = .ok (.aload_n 0, 1) := by decide +kernel
theorem dX5_wordFor_17 : decode cX5_wordFor 17 = .ok (.iload_n 1, 1) := by decide +kernel
theorem dX5_wordFor_18 : decode cX5_wordFor 18 = .ok (.iload_n 2, 1) := by decide +kernel
theorem dX5_wordFor_19 : decode cX5_wordFor 19 = .ok (.iload 5, 2) := by decide +kernel
theorem dX5_wordFor_21 : decode cX5_wordFor 21 = .ok (.invokevirtual 42, 3) := by decide +kernel
theorem dX5_wordFor_24 : decode cX5_wordFor 24 = .ok (.istore 6, 2) := by decide +kernel
theorem dX5_wordFor_26 : decode cX5_wordFor 26 = .ok (.iload 6, 2) := by decide +kernel
theorem dX5_wordFor_28 : decode cX5_wordFor 28 = .ok (.iload 4, 2) := by decide +kernel
theorem dX5_wordFor_30 : decode cX5_wordFor 30 = .ok (.if_icmp .le 8, 3) := by decide +kernel
theorem dX5_wordFor_33 : decode cX5_wordFor 33 = .ok (.iload 5, 2) := by decide +kernel
theorem dX5_wordFor_35 : decode cX5_wordFor 35 = .ok (.goto 4, 3) := by decide +kernel
theorem dX5_wordFor_38 : decode cX5_wordFor 38 = .ok (.iload_n 3, 1) := by decide +kernel
theorem dX5_wordFor_39 : decode cX5_wordFor 39 = .ok (.istore_n 3, 1) := by decide +kernel
theorem dX5_wordFor_40 : decode cX5_wordFor 40 = .ok (.iload 6, 2) := by decide +kernel
theorem dX5_wordFor_42 : decode cX5_wordFor 42 = .ok (.iload 4, 2) := by decide +kernel
theorem dX5_wordFor_44 : decode cX5_wordFor 44 = .ok (.if_icmp .le 8, 3) := by decide +kernel
theorem dX5_wordFor_47 : decode cX5_wordFor 47 = .ok (.iload 6, 2) := by decide +kernel
theorem dX5_wordFor_49 : decode cX5_wordFor 49 = .ok (.goto 5, 3) := by decide +kernel
theorem dX5_wordFor_52 : decode cX5_wordFor 52 = .ok (.iload 4, 2) := by decide +kernel
theorem dX5_wordFor_54 : decode cX5_wordFor 54 = .ok (.istore 4, 2) := by decide +kernel
theorem dX5_wordFor_56 : decode cX5_wordFor 56 = .ok (.iinc 5 1, 3) := by decide +kernel
theorem dX5_wordFor_59 : decode cX5_wordFor 59 = .ok (.goto (-50), 3) := by decide +kernel
theorem dX5_wordFor_62 : decode cX5_wordFor 62 = .ok (.iload_n 3, 1) := by decide +kernel
theorem dX5_wordFor_63 : decode cX5_wordFor 63 = .ok (.ireturn, 1) := by decide +kernel
theorem dX5_heardAs_0 : decode cX5_heardAs 0 = .ok (.bipush (-6), 2) := by decide +kernel
theorem dX5_heardAs_2 : decode cX5_heardAs 2 = .ok (.istore_n 3, 1) := by decide +kernel
theorem dX5_heardAs_3 : decode cX5_heardAs 3 = .ok (.iconst 0, 1) := by decide +kernel
theorem dX5_heardAs_4 : decode cX5_heardAs 4 = .ok (.istore 4, 2) := by decide +kernel
theorem dX5_heardAs_6 : decode cX5_heardAs 6 = .ok (.iconst 0, 1) := by decide +kernel
theorem dX5_heardAs_7 : decode cX5_heardAs 7 = .ok (.istore 5, 2) := by decide +kernel
theorem dX5_heardAs_9 : decode cX5_heardAs 9 = .ok (.iload 5, 2) := by decide +kernel
theorem dX5_heardAs_11 : decode cX5_heardAs 11 = .ok (.bipush 6, 2) := by decide +kernel
theorem dX5_heardAs_13 : decode cX5_heardAs 13 = .ok (.if_icmp .ge 49, 3) := by decide +kernel
theorem dX5_heardAs_16 : decode cX5_heardAs 16 = .ok (.aload_n 0, 1) := by decide +kernel
theorem dX5_heardAs_17 : decode cX5_heardAs 17 = .ok (.iload_n 1, 1) := by decide +kernel
theorem dX5_heardAs_18 : decode cX5_heardAs 18 = .ok (.iload 5, 2) := by decide +kernel
theorem dX5_heardAs_20 : decode cX5_heardAs 20 = .ok (.iload_n 2, 1) := by decide +kernel
theorem dX5_heardAs_21 : decode cX5_heardAs 21 = .ok (.invokevirtual 42, 3) := by decide +kernel
theorem dX5_heardAs_24 : decode cX5_heardAs 24 = .ok (.istore 6, 2) := by decide +kernel
theorem dX5_heardAs_26 : decode cX5_heardAs 26 = .ok (.iload 6, 2) := by decide +kernel
theorem dX5_heardAs_28 : decode cX5_heardAs 28 = .ok (.iload 4, 2) := by decide +kernel
theorem dX5_heardAs_30 : decode cX5_heardAs 30 = .ok (.if_icmp .le 8, 3) := by decide +kernel
theorem dX5_heardAs_33 : decode cX5_heardAs 33 = .ok (.iload 5, 2) := by decide +kernel
theorem dX5_heardAs_35 : decode cX5_heardAs 35 = .ok (.goto 4, 3) := by decide +kernel
theorem dX5_heardAs_38 : decode cX5_heardAs 38 = .ok (.iload_n 3, 1) := by decide +kernel
theorem dX5_heardAs_39 : decode cX5_heardAs 39 = .ok (.istore_n 3, 1) := by decide +kernel
theorem dX5_heardAs_40 : decode cX5_heardAs 40 = .ok (.iload 6, 2) := by decide +kernel
theorem dX5_heardAs_42 : decode cX5_heardAs 42 = .ok (.iload 4, 2) := by decide +kernel
theorem dX5_heardAs_44 : decode cX5_heardAs 44 = .ok (.if_icmp .le 8, 3) := by decide +kernel
theorem dX5_heardAs_47 : decode cX5_heardAs 47 = .ok (.iload 6, 2) := by decide +kernel
theorem dX5_heardAs_49 : decode cX5_heardAs 49 = .ok (.goto 5, 3) := by decide +kernel
theorem dX5_heardAs_52 : decode cX5_heardAs 52 = .ok (.iload 4, 2) := by decide +kernel
theorem dX5_heardAs_54 : decode cX5_heardAs 54 = .ok (.istore 4, 2) := by decide +kernel
theorem dX5_heardAs_56 : decode cX5_heardAs 56 = .ok (.iinc 5 1, 3) := by decide +kernel
theorem dX5_heardAs_59 : decode cX5_heardAs 59 = .ok (.goto (-50), 3) := by decide +kernel
theorem dX5_heardAs_62 : decode cX5_heardAs 62 = .ok (.iload_n 3, 1) := by decide +kernel
theorem dX5_heardAs_63 : decode cX5_heardAs 63 = .ok (.ireturn, 1) := by decide +kernel
theorem dX5_learns_0 : decode cX5_learns 0 = .ok (.aload_n 0, 1) := by decide +kernel
theorem dX5_learns_1 : decode cX5_learns 1 = .ok (.getfield 7, 3) := by decide +kernel
theorem dX5_learns_4 : decode cX5_learns 4 = .ok (.iconst 5, 1) := by decide +kernel
theorem dX5_learns_5 : decode cX5_learns 5 = .ok (.iaload, 1) := by decide +kernel
theorem dX5_learns_6 : decode cX5_learns 6 = .ok (.aload_n 0, 1) := by decide +kernel
theorem dX5_learns_7 : decode cX5_learns 7 = .ok (.iload_n 1, 1) := by decide +kernel
theorem dX5_learns_8 : decode cX5_learns 8 = .ok (.iconst 1, 1) := by decide +kernel
theorem dX5_learns_9 : decode cX5_learns 9 = .ok (.invokevirtual 34, 3) := by decide +kernel
theorem dX5_learns_12 : decode cX5_learns 12 = .ok (.bipush 20, 2) := by decide +kernel
theorem dX5_learns_14 : decode cX5_learns 14 = .ok (.idiv, 1) := by decide +kernel
theorem dX5_learns_15 : decode cX5_learns 15 = .ok (.isub, 1) := by decide +kernel
theorem dX5_learns_16 : decode cX5_learns 16 = .ok (.istore_n 2, 1) := by decide +kernel
theorem dX5_learns_17 : decode cX5_learns 17 = .ok (.iload_n 2, 1) := by decide +kernel
theorem dX5_learns_18 : decode cX5_learns 18 = .ok (.iconst 1, 1) := by decide +kernel
theorem dX5_learns_19 : decode cX5_learns 19 = .ok (.if_icmp .ge 7, 3) := by decide +kernel
theorem dX5_learns_22 : decode cX5_learns 22 = .ok (.iconst 1, 1) := by decide +kernel
theorem dX5_learns_23 : decode cX5_learns 23 = .ok (.goto 4, 3) := by decide +kernel
theorem dX5_learns_26 : decode cX5_learns 26 = .ok (.iload_n 2, 1) := by decide +kernel
theorem dX5_learns_27 : decode cX5_learns 27 = .ok (.ireturn, 1) := by decide +kernel
theorem dX5_draws_0 : decode cX5_draws 0 = .ok (.aload_n 0, 1) := by decide +kernel
theorem dX5_draws_1 : decode cX5_draws 1 = .ok (.getfield 7, 3) := by decide +kernel
theorem dX5_draws_4 : decode cX5_draws 4 = .ok (.iconst 0, 1) := by decide +kernel
theorem dX5_draws_5 : decode cX5_draws 5 = .ok (.sipush 25173, 3) := by decide +kernel
theorem dX5_draws_8 : decode cX5_draws 8 = .ok (.aload_n 0, 1) := by decide +kernel
theorem dX5_draws_9 : decode cX5_draws 9 = .ok (.getfield 7, 3) := by decide +kernel
theorem dX5_draws_12 : decode cX5_draws 12 = .ok (.iconst 0, 1) := by decide +kernel
theorem dX5_draws_13 : decode cX5_draws 13 = .ok (.iaload, 1) := by decide +kernel
theorem dX5_draws_14 : decode cX5_draws 14 = .ok (.imul, 1) := by decide +kernel
theorem dX5_draws_15 : decode cX5_draws 15 = .ok (.sipush 13849, 3) := by decide +kernel
theorem dX5_draws_18 : decode cX5_draws 18 = .ok (.iadd, 1) := by decide +kernel
theorem dX5_draws_19 : decode cX5_draws 19 = .ok (.ldc 49, 2) := by decide +kernel
theorem dX5_draws_21 : decode cX5_draws 21 = .ok (.irem, 1) := by decide +kernel
theorem dX5_draws_22 : decode cX5_draws 22 = .ok (.iastore, 1) := by decide +kernel
theorem dX5_draws_23 : decode cX5_draws 23 = .ok (.aload_n 0, 1) := by decide +kernel
theorem dX5_draws_24 : decode cX5_draws 24 = .ok (.getfield 7, 3) := by decide +kernel
theorem dX5_draws_27 : decode cX5_draws 27 = .ok (.iconst 0, 1) := by decide +kernel
theorem dX5_draws_28 : decode cX5_draws 28 = .ok (.iaload, 1) := by decide +kernel
theorem dX5_draws_29 : decode cX5_draws 29 = .ok (.bipush 16, 2) := by decide +kernel
theorem dX5_draws_31 : decode cX5_draws 31 = .ok (.idiv, 1) := by decide +kernel
theorem dX5_draws_32 : decode cX5_draws 32 = .ok (.iload_n 1, 1) := by decide +kernel
theorem dX5_draws_33 : decode cX5_draws 33 = .ok (.irem, 1) := by decide +kernel
theorem dX5_draws_34 : decode cX5_draws 34 = .ok (.ireturn, 1) := by decide +kernel
theorem dX5_strengthens_0 : decode cX5_strengthens 0 = .ok (.iconst 0, 1) := by decide +kernel
theorem dX5_strengthens_1 : decode cX5_strengthens 1 = .ok (.istore 4, 2) := by decide +kernel
theorem dX5_strengthens_3 : decode cX5_strengthens 3 = .ok (.iload 4, 2) := by decide +kernel
theorem dX5_strengthens_5 : decode cX5_strengthens 5 = .ok (.bipush 14, 2) := by decide +kernel
theorem dX5_strengthens_7 : decode cX5_strengthens 7 = .ok (.if_icmp .ge 39, 3) := by decide +kernel
theorem dX5_strengthens_10 : decode cX5_strengthens 10 = .ok (.aload_n 0, 1) := by decide +kernel
theorem dX5_strengthens_11 : decode cX5_strengthens 11 = .ok (.iload_n 1, 1) := by decide +kernel
theorem dX5_strengthens_12 : decode cX5_strengthens 12 = .ok (.iload_n 2, 1) := by decide +kernel
theorem dX5_strengthens_13 : decode cX5_strengthens 13 = .ok (.iload 4, 2) := by decide +kernel
theorem dX5_strengthens_15 : decode cX5_strengthens 15 = .ok (.iload 4, 2) := by decide +kernel
theorem dX5_strengthens_17 : decode cX5_strengthens 17 = .ok (.iload_n 3, 1) := by decide +kernel
theorem dX5_strengthens_18 : decode cX5_strengthens 18 = .ok (.if_icmp .ne 11, 3) := by decide +kernel
theorem dX5_strengthens_21 : decode cX5_strengthens 21 = .ok (.aload_n 0, 1) := by decide +kernel
theorem dX5_strengthens_22 : decode cX5_strengthens 22 = .ok (.iload_n 1, 1) := by decide +kernel
theorem dX5_strengthens_23 : decode cX5_strengthens 23 = .ok (.invokevirtual 50, 3) := by decide +kernel
theorem dX5_strengthens_26 : decode cX5_strengthens 26 = .ok (.goto 11, 3) := by decide +kernel
theorem dX5_strengthens_29 : decode cX5_strengthens 29 = .ok (.aload_n 0, 1) := by decide +kernel
theorem dX5_strengthens_30 : decode cX5_strengthens 30 = .ok (.getfield 7, 3) := by decide +kernel
theorem dX5_strengthens_33 : decode cX5_strengthens 33 = .ok (.bipush 6, 2) := by decide +kernel
theorem dX5_strengthens_35 : decode cX5_strengthens 35 = .ok (.iaload, 1) := by decide +kernel
theorem dX5_strengthens_36 : decode cX5_strengthens 36 = .ok (.ineg, 1) := by decide +kernel
theorem dX5_strengthens_37 : decode cX5_strengthens 37 = .ok (.invokevirtual 54, 3) := by decide +kernel
theorem dX5_strengthens_40 : decode cX5_strengthens 40 = .ok (.iinc 4 1, 3) := by decide +kernel
theorem dX5_strengthens_43 : decode cX5_strengthens 43 = .ok (.goto (-40), 3) := by decide +kernel
theorem dX5_strengthens_46 : decode cX5_strengthens 46 = .ok (.return_, 1) := by decide +kernel
theorem dX5_meets_0 : decode cX5_meets 0 = .ok (.aload_n 0, 1) := by decide +kernel
theorem dX5_meets_1 : decode cX5_meets 1 = .ok (.aload_n 0, 1) := by decide +kernel
theorem dX5_meets_2 : decode cX5_meets 2 = .ok (.iload_n 1, 1) := by decide +kernel
theorem dX5_meets_3 : decode cX5_meets 3 = .ok (.iload_n 3, 1) := by decide +kernel
theorem dX5_meets_4 : decode cX5_meets 4 = .ok (.invokevirtual 58, 3) := by decide +kernel
theorem dX5_meets_7 : decode cX5_meets 7 = .ok (.putfield 61, 3) := by decide +kernel
theorem dX5_meets_10 : decode cX5_meets 10 = .ok (.aload_n 0, 1) := by decide +kernel
theorem dX5_meets_11 : decode cX5_meets 11 = .ok (.getfield 61, 3) := by decide +kernel
theorem dX5_meets_14 : decode cX5_meets 14 = .ok (.bipush (-6), 2) := by decide +kernel
theorem dX5_meets_16 : decode cX5_meets 16 = .ok (.if_icmp .ne 13, 3) := by decide +kernel
theorem dX5_meets_19 : decode cX5_meets 19 = .ok (.aload_n 0, 1) := by decide +kernel
theorem dX5_meets_20 : decode cX5_meets 20 = .ok (.aload_n 0, 1) := by decide +kernel
theorem dX5_meets_21 : decode cX5_meets 21 = .ok (.bipush 14, 2) := by decide +kernel
theorem dX5_meets_23 : decode cX5_meets 23 = .ok (.invokevirtual 64, 3) := by decide +kernel
theorem dX5_meets_26 : decode cX5_meets 26 = .ok (.putfield 61, 3) := by decide +kernel
theorem dX5_meets_29 : decode cX5_meets 29 = .ok (.aload_n 0, 1) := by decide +kernel
theorem dX5_meets_30 : decode cX5_meets 30 = .ok (.aload_n 0, 1) := by decide +kernel
theorem dX5_meets_31 : decode cX5_meets 31 = .ok (.iload_n 2, 1) := by decide +kernel
theorem dX5_meets_32 : decode cX5_meets 32 = .ok (.aload_n 0, 1) := by decide +kernel
theorem dX5_meets_33 : decode cX5_meets 33 = .ok (.getfield 61, 3) := by decide +kernel
theorem dX5_meets_36 : decode cX5_meets 36 = .ok (.invokevirtual 67, 3) := by decide +kernel
theorem dX5_meets_39 : decode cX5_meets 39 = .ok (.putfield 70, 3) := by decide +kernel
theorem dX5_meets_42 : decode cX5_meets 42 = .ok (.aload_n 0, 1) := by decide +kernel
theorem dX5_meets_43 : decode cX5_meets 43 = .ok (.getfield 70, 3) := by decide +kernel
theorem dX5_meets_46 : decode cX5_meets 46 = .ok (.bipush (-6), 2) := by decide +kernel
theorem dX5_meets_48 : decode cX5_meets 48 = .ok (.if_icmp .ne 13, 3) := by decide +kernel
theorem dX5_meets_51 : decode cX5_meets 51 = .ok (.aload_n 0, 1) := by decide +kernel
theorem dX5_meets_52 : decode cX5_meets 52 = .ok (.aload_n 0, 1) := by decide +kernel
theorem dX5_meets_53 : decode cX5_meets 53 = .ok (.bipush 6, 2) := by decide +kernel
theorem dX5_meets_55 : decode cX5_meets 55 = .ok (.invokevirtual 64, 3) := by decide +kernel
theorem dX5_meets_58 : decode cX5_meets 58 = .ok (.putfield 70, 3) := by decide +kernel
theorem dX5_meets_61 : decode cX5_meets 61 = .ok (.aload_n 0, 1) := by decide +kernel
theorem dX5_meets_62 : decode cX5_meets 62 = .ok (.getfield 70, 3) := by decide +kernel
theorem dX5_meets_65 : decode cX5_meets 65 = .ok (.iload_n 3, 1) := by decide +kernel
theorem dX5_meets_66 : decode cX5_meets 66 = .ok (.if_icmp .ne 81, 3) := by decide +kernel
theorem dX5_meets_69 : decode cX5_meets 69 = .ok (.aload_n 0, 1) := by decide +kernel
theorem dX5_meets_70 : decode cX5_meets 70 = .ok (.iload_n 1, 1) := by decide +kernel
theorem dX5_meets_71 : decode cX5_meets 71 = .ok (.iload_n 3, 1) := by decide +kernel
theorem dX5_meets_72 : decode cX5_meets 72 = .ok (.aload_n 0, 1) := by decide +kernel
theorem dX5_meets_73 : decode cX5_meets 73 = .ok (.getfield 61, 3) := by decide +kernel
theorem dX5_meets_76 : decode cX5_meets 76 = .ok (.invokevirtual 73, 3) := by decide +kernel
theorem dX5_meets_79 : decode cX5_meets 79 = .ok (.aload_n 0, 1) := by decide +kernel
theorem dX5_meets_80 : decode cX5_meets 80 = .ok (.iload_n 2, 1) := by decide +kernel
theorem dX5_meets_81 : decode cX5_meets 81 = .ok (.iload_n 3, 1) := by decide +kernel
theorem dX5_meets_82 : decode cX5_meets 82 = .ok (.aload_n 0, 1) := by decide +kernel
theorem dX5_meets_83 : decode cX5_meets 83 = .ok (.getfield 61, 3) := by decide +kernel
theorem dX5_meets_86 : decode cX5_meets 86 = .ok (.invokevirtual 73, 3) := by decide +kernel
theorem dX5_meets_89 : decode cX5_meets 89 = .ok (.iconst 0, 1) := by decide +kernel
theorem dX5_meets_90 : decode cX5_meets 90 = .ok (.istore 4, 2) := by decide +kernel
theorem dX5_meets_92 : decode cX5_meets 92 = .ok (.iload 4, 2) := by decide +kernel
theorem dX5_meets_94 : decode cX5_meets 94 = .ok (.bipush 6, 2) := by decide +kernel
theorem dX5_meets_96 : decode cX5_meets 96 = .ok (.if_icmp .ge 38, 3) := by decide +kernel
theorem dX5_meets_99 : decode cX5_meets 99 = .ok (.aload_n 0, 1) := by decide +kernel
theorem dX5_meets_100 : decode cX5_meets 100 = .ok (.iload_n 2, 1) := by decide +kernel
theorem dX5_meets_101 : decode cX5_meets 101 = .ok (.iload 4, 2) := by decide +kernel
theorem dX5_meets_103 : decode cX5_meets 103 = .ok (.aload_n 0, 1) := by decide +kernel
theorem dX5_meets_104 : decode cX5_meets 104 = .ok (.getfield 61, 3) := by decide +kernel
theorem dX5_meets_107 : decode cX5_meets 107 = .ok (.iload 4, 2) := by decide +kernel
theorem dX5_meets_109 : decode cX5_meets 109 = .ok (.iload_n 3, 1) := by decide +kernel
theorem dX5_meets_110 : decode cX5_meets 110 = .ok (.if_icmp .ne 7, 3) := by decide +kernel
theorem dX5_meets_113 : decode cX5_meets 113 = .ok (.iconst 0, 1) := by decide +kernel
theorem dX5_meets_114 : decode cX5_meets 114 = .ok (.goto 11, 3) := by decide +kernel
theorem dX5_meets_117 : decode cX5_meets 117 = .ok (.aload_n 0, 1) := by decide +kernel
theorem dX5_meets_118 : decode cX5_meets 118 = .ok (.getfield 7, 3) := by decide +kernel
theorem dX5_meets_121 : decode cX5_meets 121 = .ok (.bipush 6, 2) := by decide +kernel
theorem dX5_meets_123 : decode cX5_meets 123 = .ok (.iaload, 1) := by decide +kernel
theorem dX5_meets_124 : decode cX5_meets 124 = .ok (.ineg, 1) := by decide +kernel
theorem dX5_meets_125 : decode cX5_meets 125 = .ok (.invokevirtual 54, 3) := by decide +kernel
theorem dX5_meets_128 : decode cX5_meets 128 = .ok (.iinc 4 1, 3) := by decide +kernel
theorem dX5_meets_131 : decode cX5_meets 131 = .ok (.goto (-39), 3) := by decide +kernel
theorem dX5_meets_134 : decode cX5_meets 134 = .ok (.aload_n 0, 1) := by decide +kernel
theorem dX5_meets_135 : decode cX5_meets 135 = .ok (.getfield 7, 3) := by decide +kernel
theorem dX5_meets_138 : decode cX5_meets 138 = .ok (.iconst 2, 1) := by decide +kernel
theorem dX5_meets_139 : decode cX5_meets 139 = .ok (.dup2, 1) := by decide +kernel
theorem dX5_meets_140 : decode cX5_meets 140 = .ok (.iaload, 1) := by decide +kernel
theorem dX5_meets_141 : decode cX5_meets 141 = .ok (.iconst 1, 1) := by decide +kernel
theorem dX5_meets_142 : decode cX5_meets 142 = .ok (.iadd, 1) := by decide +kernel
theorem dX5_meets_143 : decode cX5_meets 143 = .ok (.iastore, 1) := by decide +kernel
theorem dX5_meets_144 : decode cX5_meets 144 = .ok (.goto 53, 3) := by decide +kernel
theorem dX5_meets_147 : decode cX5_meets 147 = .ok (.aload_n 0, 1) := by decide +kernel
theorem dX5_meets_148 : decode cX5_meets 148 = .ok (.iload_n 1, 1) := by decide +kernel
theorem dX5_meets_149 : decode cX5_meets 149 = .ok (.iload_n 3, 1) := by decide +kernel
theorem dX5_meets_150 : decode cX5_meets 150 = .ok (.aload_n 0, 1) := by decide +kernel
theorem dX5_meets_151 : decode cX5_meets 151 = .ok (.getfield 61, 3) := by decide +kernel
theorem dX5_meets_154 : decode cX5_meets 154 = .ok (.aload_n 0, 1) := by decide +kernel
theorem dX5_meets_155 : decode cX5_meets 155 = .ok (.getfield 7, 3) := by decide +kernel
theorem dX5_meets_158 : decode cX5_meets 158 = .ok (.bipush 6, 2) := by decide +kernel
theorem dX5_meets_160 : decode cX5_meets 160 = .ok (.iaload, 1) := by decide +kernel
theorem dX5_meets_161 : decode cX5_meets 161 = .ok (.ineg, 1) := by decide +kernel
theorem dX5_meets_162 : decode cX5_meets 162 = .ok (.invokevirtual 54, 3) := by decide +kernel
theorem dX5_meets_165 : decode cX5_meets 165 = .ok (.aload_n 0, 1) := by decide +kernel
theorem dX5_meets_166 : decode cX5_meets 166 = .ok (.iload_n 2, 1) := by decide +kernel
theorem dX5_meets_167 : decode cX5_meets 167 = .ok (.iload_n 3, 1) := by decide +kernel
theorem dX5_meets_168 : decode cX5_meets 168 = .ok (.aload_n 0, 1) := by decide +kernel
theorem dX5_meets_169 : decode cX5_meets 169 = .ok (.getfield 61, 3) := by decide +kernel
theorem dX5_meets_172 : decode cX5_meets 172 = .ok (.iconst 1, 1) := by decide +kernel
theorem dX5_meets_173 : decode cX5_meets 173 = .ok (.invokevirtual 54, 3) := by decide +kernel
theorem dX5_meets_176 : decode cX5_meets 176 = .ok (.aload_n 0, 1) := by decide +kernel
theorem dX5_meets_177 : decode cX5_meets 177 = .ok (.iload_n 2, 1) := by decide +kernel
theorem dX5_meets_178 : decode cX5_meets 178 = .ok (.aload_n 0, 1) := by decide +kernel
theorem dX5_meets_179 : decode cX5_meets 179 = .ok (.getfield 70, 3) := by decide +kernel
theorem dX5_meets_182 : decode cX5_meets 182 = .ok (.aload_n 0, 1) := by decide +kernel
theorem dX5_meets_183 : decode cX5_meets 183 = .ok (.getfield 61, 3) := by decide +kernel
theorem dX5_meets_186 : decode cX5_meets 186 = .ok (.aload_n 0, 1) := by decide +kernel
theorem dX5_meets_187 : decode cX5_meets 187 = .ok (.getfield 7, 3) := by decide +kernel
theorem dX5_meets_190 : decode cX5_meets 190 = .ok (.bipush 6, 2) := by decide +kernel
theorem dX5_meets_192 : decode cX5_meets 192 = .ok (.iaload, 1) := by decide +kernel
theorem dX5_meets_193 : decode cX5_meets 193 = .ok (.ineg, 1) := by decide +kernel
theorem dX5_meets_194 : decode cX5_meets 194 = .ok (.invokevirtual 54, 3) := by decide +kernel
theorem dX5_meets_197 : decode cX5_meets 197 = .ok (.aload_n 0, 1) := by decide +kernel
theorem dX5_meets_198 : decode cX5_meets 198 = .ok (.getfield 7, 3) := by decide +kernel
theorem dX5_meets_201 : decode cX5_meets 201 = .ok (.iconst 1, 1) := by decide +kernel
theorem dX5_meets_202 : decode cX5_meets 202 = .ok (.dup2, 1) := by decide +kernel
theorem dX5_meets_203 : decode cX5_meets 203 = .ok (.iaload, 1) := by decide +kernel
theorem dX5_meets_204 : decode cX5_meets 204 = .ok (.iconst 1, 1) := by decide +kernel
theorem dX5_meets_205 : decode cX5_meets 205 = .ok (.iadd, 1) := by decide +kernel
theorem dX5_meets_206 : decode cX5_meets 206 = .ok (.iastore, 1) := by decide +kernel
theorem dX5_meets_207 : decode cX5_meets 207 = .ok (.aload_n 0, 1) := by decide +kernel
theorem dX5_meets_208 : decode cX5_meets 208 = .ok (.iload_n 1, 1) := by decide +kernel
theorem dX5_meets_209 : decode cX5_meets 209 = .ok (.iconst 2, 1) := by decide +kernel
theorem dX5_meets_210 : decode cX5_meets 210 = .ok (.aload_n 0, 1) := by decide +kernel
theorem dX5_meets_211 : decode cX5_meets 211 = .ok (.iload_n 1, 1) := by decide +kernel
theorem dX5_meets_212 : decode cX5_meets 212 = .ok (.iconst 2, 1) := by decide +kernel
theorem dX5_meets_213 : decode cX5_meets 213 = .ok (.invokevirtual 34, 3) := by decide +kernel
theorem dX5_meets_216 : decode cX5_meets 216 = .ok (.iconst 1, 1) := by decide +kernel
theorem dX5_meets_217 : decode cX5_meets 217 = .ok (.iadd, 1) := by decide +kernel
theorem dX5_meets_218 : decode cX5_meets 218 = .ok (.invokevirtual 77, 3) := by decide +kernel
theorem dX5_meets_221 : decode cX5_meets 221 = .ok (.aload_n 0, 1) := by decide +kernel
theorem dX5_meets_222 : decode cX5_meets 222 = .ok (.iload_n 2, 1) := by decide +kernel
theorem dX5_meets_223 : decode cX5_meets 223 = .ok (.iconst 2, 1) := by decide +kernel
theorem dX5_meets_224 : decode cX5_meets 224 = .ok (.aload_n 0, 1) := by decide +kernel
theorem dX5_meets_225 : decode cX5_meets 225 = .ok (.iload_n 2, 1) := by decide +kernel
theorem dX5_meets_226 : decode cX5_meets 226 = .ok (.iconst 2, 1) := by decide +kernel
theorem dX5_meets_227 : decode cX5_meets 227 = .ok (.invokevirtual 34, 3) := by decide +kernel
theorem dX5_meets_230 : decode cX5_meets 230 = .ok (.iconst 1, 1) := by decide +kernel
theorem dX5_meets_231 : decode cX5_meets 231 = .ok (.iadd, 1) := by decide +kernel
theorem dX5_meets_232 : decode cX5_meets 232 = .ok (.invokevirtual 77, 3) := by decide +kernel
theorem dX5_meets_235 : decode cX5_meets 235 = .ok (.aload_n 0, 1) := by decide +kernel
theorem dX5_meets_236 : decode cX5_meets 236 = .ok (.getfield 70, 3) := by decide +kernel
theorem dX5_meets_239 : decode cX5_meets 239 = .ok (.iload_n 3, 1) := by decide +kernel
theorem dX5_meets_240 : decode cX5_meets 240 = .ok (.if_icmp .ne 7, 3) := by decide +kernel
theorem dX5_meets_243 : decode cX5_meets 243 = .ok (.iconst 1, 1) := by decide +kernel
theorem dX5_meets_244 : decode cX5_meets 244 = .ok (.goto 4, 3) := by decide +kernel
theorem dX5_meets_247 : decode cX5_meets 247 = .ok (.iconst 0, 1) := by decide +kernel
theorem dX5_meets_248 : decode cX5_meets 248 = .ok (.ireturn, 1) := by decide +kernel
theorem dX5_whyNotMet_0 : decode cX5_whyNotMet 0 = .ok (.aload_n 0, 1) := by decide +kernel
theorem dX5_whyNotMet_1 : decode cX5_whyNotMet 1 = .ok (.iload_n 1, 1) := by decide +kernel
theorem dX5_whyNotMet_2 : decode cX5_whyNotMet 2 = .ok (.invokevirtual 45, 3) := by decide +kernel
theorem dX5_whyNotMet_5 : decode cX5_whyNotMet 5 = .ok (.ifCond .eq 18, 3) := by decide +kernel
theorem dX5_whyNotMet_8 : decode cX5_whyNotMet 8 = .ok (.aload_n 0, 1) := by decide +kernel
theorem dX5_whyNotMet_9 : decode cX5_whyNotMet 9 = .ok (.iload_n 2, 1) := by decide +kernel
theorem dX5_whyNotMet_10 : decode cX5_whyNotMet 10 = .ok (.invokevirtual 45, 3) := by decide +kernel
theorem dX5_whyNotMet_13 : decode cX5_whyNotMet 13 = .ok (.ifCond .eq 10, 3) := by decide +kernel
theorem dX5_whyNotMet_16 : decode cX5_whyNotMet 16 = .ok (.iload_n 3, 1) := by decide +kernel
theorem dX5_whyNotMet_17 : decode cX5_whyNotMet 17 = .ok (.invokestatic 80, 3) := by decide +kernel
theorem dX5_whyNotMet_20 : decode cX5_whyNotMet 20 = .ok (.ifCond .ne 7, 3) := by decide +kernel
theorem dX5_whyNotMet_23 : decode cX5_whyNotMet 23 = .ok (.iconst (-1), 1) := by decide +kernel
theorem dX5_whyNotMet_24 : decode cX5_whyNotMet 24 = .ok (.goto 14, 3) := by decide +kernel
theorem dX5_whyNotMet_27 : decode cX5_whyNotMet 27 = .ok (.iload_n 1, 1) := by decide +kernel
theorem dX5_whyNotMet_28 : decode cX5_whyNotMet 28 = .ok (.iload_n 2, 1) := by decide +kernel
theorem dX5_whyNotMet_29 : decode cX5_whyNotMet 29 = .ok (.if_icmp .ne 8, 3) := by decide +kernel
theorem dX5_whyNotMet_32 : decode cX5_whyNotMet 32 = .ok (.bipush (-3), 2) := by decide +kernel
theorem dX5_whyNotMet_34 : decode cX5_whyNotMet 34 = .ok (.goto 4, 3) := by decide +kernel
theorem dX5_whyNotMet_37 : decode cX5_whyNotMet 37 = .ok (.iconst 0, 1) := by decide +kernel
theorem dX5_whyNotMet_38 : decode cX5_whyNotMet 38 = .ok (.ireturn, 1) := by decide +kernel
theorem dX5_meet_0 : decode cX5_meet 0 = .ok (.aload_n 0, 1) := by decide +kernel
theorem dX5_meet_1 : decode cX5_meet 1 = .ok (.iload_n 1, 1) := by decide +kernel
theorem dX5_meet_2 : decode cX5_meet 2 = .ok (.iload_n 2, 1) := by decide +kernel
theorem dX5_meet_3 : decode cX5_meet 3 = .ok (.iload_n 3, 1) := by decide +kernel
theorem dX5_meet_4 : decode cX5_meet 4 = .ok (.invokevirtual 83, 3) := by decide +kernel
theorem dX5_meet_7 : decode cX5_meet 7 = .ok (.istore 4, 2) := by decide +kernel
theorem dX5_meet_9 : decode cX5_meet 9 = .ok (.iload 4, 2) := by decide +kernel
theorem dX5_meet_11 : decode cX5_meet 11 = .ok (.ifCond .ge 6, 3) := by decide +kernel
theorem dX5_meet_14 : decode cX5_meet 14 = .ok (.iload 4, 2) := by decide +kernel
theorem dX5_meet_16 : decode cX5_meet 16 = .ok (.ireturn, 1) := by decide +kernel
theorem dX5_meet_17 : decode cX5_meet 17 = .ok (.aload_n 0, 1) := by decide +kernel
theorem dX5_meet_18 : decode cX5_meet 18 = .ok (.invokevirtual 86, 3) := by decide +kernel
theorem dX5_meet_21 : decode cX5_meet 21 = .ok (.aload_n 0, 1) := by decide +kernel
theorem dX5_meet_22 : decode cX5_meet 22 = .ok (.iload_n 1, 1) := by decide +kernel
theorem dX5_meet_23 : decode cX5_meet 23 = .ok (.iload_n 2, 1) := by decide +kernel
theorem dX5_meet_24 : decode cX5_meet 24 = .ok (.iload_n 3, 1) := by decide +kernel
theorem dX5_meet_25 : decode cX5_meet 25 = .ok (.invokevirtual 89, 3) := by decide +kernel
theorem dX5_meet_28 : decode cX5_meet 28 = .ok (.pop, 1) := by decide +kernel
theorem dX5_meet_29 : decode cX5_meet 29 = .ok (.bipush 10, 2) := by decide +kernel
theorem dX5_meet_31 : decode cX5_meet 31 = .ok (.aload_n 0, 1) := by decide +kernel
theorem dX5_meet_32 : decode cX5_meet 32 = .ok (.getfield 61, 3) := by decide +kernel
theorem dX5_meet_35 : decode cX5_meet 35 = .ok (.imul, 1) := by decide +kernel
theorem dX5_meet_36 : decode cX5_meet 36 = .ok (.aload_n 0, 1) := by decide +kernel
theorem dX5_meet_37 : decode cX5_meet 37 = .ok (.getfield 70, 3) := by decide +kernel
theorem dX5_meet_40 : decode cX5_meet 40 = .ok (.iadd, 1) := by decide +kernel
theorem dX5_meet_41 : decode cX5_meet 41 = .ok (.ireturn, 1) := by decide +kernel
theorem dX5_whyNotChat_0 : decode cX5_whyNotChat 0 = .ok (.iload_n 1, 1) := by decide +kernel
theorem dX5_whyNotChat_1 : decode cX5_whyNotChat 1 = .ok (.iconst 1, 1) := by decide +kernel
theorem dX5_whyNotChat_2 : decode cX5_whyNotChat 2 = .ok (.sipush 200, 3) := by decide +kernel
theorem dX5_whyNotChat_5 : decode cX5_whyNotChat 5 = .ok (.invokestatic 30, 3) := by decide +kernel
theorem dX5_whyNotChat_8 : decode cX5_whyNotChat 8 = .ok (.ifCond .ne 8, 3) := by decide +kernel
theorem dX5_whyNotChat_11 : decode cX5_whyNotChat 11 = .ok (.bipush (-2), 2) := by decide +kernel
theorem dX5_whyNotChat_13 : decode cX5_whyNotChat 13 = .ok (.goto 17, 3) := by decide +kernel
theorem dX5_whyNotChat_16 : decode cX5_whyNotChat 16 = .ok (.aload_n 0, 1) := by decide +kernel
theorem dX5_whyNotChat_17 : decode cX5_whyNotChat 17 = .ok (.invokevirtual 92, 3) := by decide +kernel
theorem dX5_whyNotChat_20 : decode cX5_whyNotChat 20 = .ok (.iconst 2, 1) := by decide +kernel
theorem dX5_whyNotChat_21 : decode cX5_whyNotChat 21 = .ok (.if_icmp .ge 8, 3) := by decide +kernel
theorem dX5_whyNotChat_24 : decode cX5_whyNotChat 24 = .ok (.bipush (-3), 2) := by decide +kernel
theorem dX5_whyNotChat_26 : decode cX5_whyNotChat 26 = .ok (.goto 4, 3) := by decide +kernel
theorem dX5_whyNotChat_29 : decode cX5_whyNotChat 29 = .ok (.iconst 0, 1) := by decide +kernel
theorem dX5_whyNotChat_30 : decode cX5_whyNotChat 30 = .ok (.ireturn, 1) := by decide +kernel
theorem dX5_chats_0 : decode cX5_chats 0 = .ok (.aload_n 0, 1) := by decide +kernel
theorem dX5_chats_1 : decode cX5_chats 1 = .ok (.invokevirtual 92, 3) := by decide +kernel
theorem dX5_chats_4 : decode cX5_chats 4 = .ok (.istore_n 2, 1) := by decide +kernel
theorem dX5_chats_5 : decode cX5_chats 5 = .ok (.iconst 0, 1) := by decide +kernel
theorem dX5_chats_6 : decode cX5_chats 6 = .ok (.istore_n 3, 1) := by decide +kernel
theorem dX5_chats_7 : decode cX5_chats 7 = .ok (.iconst 0, 1) := by decide +kernel
theorem dX5_chats_8 : decode cX5_chats 8 = .ok (.istore 4, 2) := by decide +kernel
theorem dX5_chats_10 : decode cX5_chats 10 = .ok (.iload 4, 2) := by decide +kernel
theorem dX5_chats_12 : decode cX5_chats 12 = .ok (.iload_n 1, 1) := by decide +kernel
theorem dX5_chats_13 : decode cX5_chats 13 = .ok (.if_icmp .ge 66, 3) := by decide +kernel
theorem dX5_chats_16 : decode cX5_chats 16 = .ok (.aload_n 0, 1) := by decide +kernel
theorem dX5_chats_17 : decode cX5_chats 17 = .ok (.aload_n 0, 1) := by decide +kernel
theorem dX5_chats_18 : decode cX5_chats 18 = .ok (.iload_n 2, 1) := by decide +kernel
theorem dX5_chats_19 : decode cX5_chats 19 = .ok (.invokevirtual 64, 3) := by decide +kernel
theorem dX5_chats_22 : decode cX5_chats 22 = .ok (.bipush (-6), 2) := by decide +kernel
theorem dX5_chats_24 : decode cX5_chats 24 = .ok (.invokevirtual 96, 3) := by decide +kernel
theorem dX5_chats_27 : decode cX5_chats 27 = .ok (.istore 5, 2) := by decide +kernel
theorem dX5_chats_29 : decode cX5_chats 29 = .ok (.aload_n 0, 1) := by decide +kernel
theorem dX5_chats_30 : decode cX5_chats 30 = .ok (.aload_n 0, 1) := by decide +kernel
theorem dX5_chats_31 : decode cX5_chats 31 = .ok (.iload_n 2, 1) := by decide +kernel
theorem dX5_chats_32 : decode cX5_chats 32 = .ok (.iconst 1, 1) := by decide +kernel
theorem dX5_chats_33 : decode cX5_chats 33 = .ok (.isub, 1) := by decide +kernel
theorem dX5_chats_34 : decode cX5_chats 34 = .ok (.invokevirtual 64, 3) := by decide +kernel
theorem dX5_chats_37 : decode cX5_chats 37 = .ok (.iload 5, 2) := by decide +kernel
theorem dX5_chats_39 : decode cX5_chats 39 = .ok (.invokevirtual 96, 3) := by decide +kernel
theorem dX5_chats_42 : decode cX5_chats 42 = .ok (.istore 6, 2) := by decide +kernel
theorem dX5_chats_44 : decode cX5_chats 44 = .ok (.aload_n 0, 1) := by decide +kernel
theorem dX5_chats_45 : decode cX5_chats 45 = .ok (.bipush 6, 2) := by decide +kernel
theorem dX5_chats_47 : decode cX5_chats 47 = .ok (.invokevirtual 64, 3) := by decide +kernel
theorem dX5_chats_50 : decode cX5_chats 50 = .ok (.istore 7, 2) := by decide +kernel
theorem dX5_chats_52 : decode cX5_chats 52 = .ok (.iload_n 3, 1) := by decide +kernel
theorem dX5_chats_53 : decode cX5_chats 53 = .ok (.aload_n 0, 1) := by decide +kernel
theorem dX5_chats_54 : decode cX5_chats 54 = .ok (.iload 5, 2) := by decide +kernel
theorem dX5_chats_56 : decode cX5_chats 56 = .ok (.iload 6, 2) := by decide +kernel
theorem dX5_chats_58 : decode cX5_chats 58 = .ok (.iload 7, 2) := by decide +kernel
theorem dX5_chats_60 : decode cX5_chats 60 = .ok (.invokevirtual 89, 3) := by decide +kernel
theorem dX5_chats_63 : decode cX5_chats 63 = .ok (.ifCond .eq 7, 3) := by decide +kernel
theorem dX5_chats_66 : decode cX5_chats 66 = .ok (.iconst 1, 1) := by decide +kernel
theorem dX5_chats_67 : decode cX5_chats 67 = .ok (.goto 4, 3) := by decide +kernel
theorem dX5_chats_70 : decode cX5_chats 70 = .ok (.iconst 0, 1) := by decide +kernel
theorem dX5_chats_71 : decode cX5_chats 71 = .ok (.iadd, 1) := by decide +kernel
theorem dX5_chats_72 : decode cX5_chats 72 = .ok (.istore_n 3, 1) := by decide +kernel
theorem dX5_chats_73 : decode cX5_chats 73 = .ok (.iinc 4 1, 3) := by decide +kernel
theorem dX5_chats_76 : decode cX5_chats 76 = .ok (.goto (-66), 3) := by decide +kernel
theorem dX5_chats_79 : decode cX5_chats 79 = .ok (.iload_n 3, 1) := by decide +kernel
theorem dX5_chats_80 : decode cX5_chats 80 = .ok (.ireturn, 1) := by decide +kernel
theorem dX5_chat_0 : decode cX5_chat 0 = .ok (.aload_n 0, 1) := by decide +kernel
theorem dX5_chat_1 : decode cX5_chat 1 = .ok (.iload_n 1, 1) := by decide +kernel
theorem dX5_chat_2 : decode cX5_chat 2 = .ok (.invokevirtual 99, 3) := by decide +kernel
theorem dX5_chat_5 : decode cX5_chat 5 = .ok (.istore_n 2, 1) := by decide +kernel
theorem dX5_chat_6 : decode cX5_chat 6 = .ok (.iload_n 2, 1) := by decide +kernel
theorem dX5_chat_7 : decode cX5_chat 7 = .ok (.ifCond .ge 5, 3) := by decide +kernel
theorem dX5_chat_10 : decode cX5_chat 10 = .ok (.iload_n 2, 1) := by decide +kernel
theorem dX5_chat_11 : decode cX5_chat 11 = .ok (.ireturn, 1) := by decide +kernel
theorem dX5_chat_12 : decode cX5_chat 12 = .ok (.aload_n 0, 1) := by decide +kernel
theorem dX5_chat_13 : decode cX5_chat 13 = .ok (.invokevirtual 86, 3) := by decide +kernel
theorem dX5_chat_16 : decode cX5_chat 16 = .ok (.aload_n 0, 1) := by decide +kernel
theorem dX5_chat_17 : decode cX5_chat 17 = .ok (.iload_n 1, 1) := by decide +kernel
theorem dX5_chat_18 : decode cX5_chat 18 = .ok (.invokevirtual 102, 3) := by decide +kernel
theorem dX5_chat_21 : decode cX5_chat 21 = .ok (.ireturn, 1) := by decide +kernel
theorem dX5_teacherOf_0 : decode cX5_teacherOf 0 = .ok (.bipush (-6), 2) := by decide +kernel
theorem dX5_teacherOf_2 : decode cX5_teacherOf 2 = .ok (.istore_n 2, 1) := by decide +kernel
theorem dX5_teacherOf_3 : decode cX5_teacherOf 3 = .ok (.iconst 0, 1) := by decide +kernel
theorem dX5_teacherOf_4 : decode cX5_teacherOf 4 = .ok (.istore_n 3, 1) := by decide +kernel
theorem dX5_teacherOf_5 : decode cX5_teacherOf 5 = .ok (.iload_n 3, 1) := by decide +kernel
theorem dX5_teacherOf_6 : decode cX5_teacherOf 6 = .ok (.bipush 8, 2) := by decide +kernel
theorem dX5_teacherOf_8 : decode cX5_teacherOf 8 = .ok (.if_icmp .ge 77, 3) := by decide +kernel
theorem dX5_teacherOf_11 : decode cX5_teacherOf 11 = .ok (.aload_n 0, 1) := by decide +kernel
theorem dX5_teacherOf_12 : decode cX5_teacherOf 12 = .ok (.iload_n 3, 1) := by decide +kernel
theorem dX5_teacherOf_13 : decode cX5_teacherOf 13 = .ok (.invokevirtual 45, 3) := by decide +kernel
theorem dX5_teacherOf_16 : decode cX5_teacherOf 16 = .ok (.ifCond .eq 28, 3) := by decide +kernel
theorem dX5_teacherOf_19 : decode cX5_teacherOf 19 = .ok (.iload_n 3, 1) := by decide +kernel
theorem dX5_teacherOf_20 : decode cX5_teacherOf 20 = .ok (.iload_n 1, 1) := by decide +kernel
theorem dX5_teacherOf_21 : decode cX5_teacherOf 21 = .ok (.if_icmp .eq 23, 3) := by decide +kernel
theorem dX5_teacherOf_24 : decode cX5_teacherOf 24 = .ok (.aload_n 0, 1) := by decide +kernel
theorem dX5_teacherOf_25 : decode cX5_teacherOf 25 = .ok (.iload_n 3, 1) := by decide +kernel
theorem dX5_teacherOf_26 : decode cX5_teacherOf 26 = .ok (.iconst 1, 1) := by decide +kernel
theorem dX5_teacherOf_27 : decode cX5_teacherOf 27 = .ok (.invokevirtual 34, 3) := by decide +kernel
theorem dX5_teacherOf_30 : decode cX5_teacherOf 30 = .ok (.aload_n 0, 1) := by decide +kernel
theorem dX5_teacherOf_31 : decode cX5_teacherOf 31 = .ok (.getfield 7, 3) := by decide +kernel
theorem dX5_teacherOf_34 : decode cX5_teacherOf 34 = .ok (.bipush 7, 2) := by decide +kernel
theorem dX5_teacherOf_36 : decode cX5_teacherOf 36 = .ok (.iaload, 1) := by decide +kernel
theorem dX5_teacherOf_37 : decode cX5_teacherOf 37 = .ok (.if_icmp .gt 7, 3) := by decide +kernel
theorem dX5_teacherOf_40 : decode cX5_teacherOf 40 = .ok (.iconst 1, 1) := by decide +kernel
theorem dX5_teacherOf_41 : decode cX5_teacherOf 41 = .ok (.goto 4, 3) := by decide +kernel
theorem dX5_teacherOf_44 : decode cX5_teacherOf 44 = .ok (.iconst 0, 1) := by decide +kernel
theorem dX5_teacherOf_45 : decode cX5_teacherOf 45 = .ok (.istore 4, 2) := by decide +kernel
theorem dX5_teacherOf_47 : decode cX5_teacherOf 47 = .ok (.iload 4, 2) := by decide +kernel
theorem dX5_teacherOf_49 : decode cX5_teacherOf 49 = .ok (.ifCond .eq 28, 3) := by decide +kernel
theorem dX5_teacherOf_52 : decode cX5_teacherOf 52 = .ok (.iload_n 2, 1) := by decide +kernel
theorem dX5_teacherOf_53 : decode cX5_teacherOf 53 = .ok (.bipush (-6), 2) := by decide +kernel
theorem dX5_teacherOf_55 : decode cX5_teacherOf 55 = .ok (.if_icmp .eq 18, 3) := by decide +kernel
theorem dX5_teacherOf_58 : decode cX5_teacherOf 58 = .ok (.aload_n 0, 1) := by decide +kernel
theorem dX5_teacherOf_59 : decode cX5_teacherOf 59 = .ok (.iload_n 3, 1) := by decide +kernel
theorem dX5_teacherOf_60 : decode cX5_teacherOf 60 = .ok (.iconst 1, 1) := by decide +kernel
theorem dX5_teacherOf_61 : decode cX5_teacherOf 61 = .ok (.invokevirtual 34, 3) := by decide +kernel
theorem dX5_teacherOf_64 : decode cX5_teacherOf 64 = .ok (.aload_n 0, 1) := by decide +kernel
theorem dX5_teacherOf_65 : decode cX5_teacherOf 65 = .ok (.iload_n 2, 1) := by decide +kernel
theorem dX5_teacherOf_66 : decode cX5_teacherOf 66 = .ok (.iconst 1, 1) := by decide +kernel
theorem dX5_teacherOf_67 : decode cX5_teacherOf 67 = .ok (.invokevirtual 34, 3) := by decide +kernel
theorem dX5_teacherOf_70 : decode cX5_teacherOf 70 = .ok (.if_icmp .ge 7, 3) := by decide +kernel
theorem dX5_teacherOf_73 : decode cX5_teacherOf 73 = .ok (.iload_n 3, 1) := by decide +kernel
theorem dX5_teacherOf_74 : decode cX5_teacherOf 74 = .ok (.goto 4, 3) := by decide +kernel
theorem dX5_teacherOf_77 : decode cX5_teacherOf 77 = .ok (.iload_n 2, 1) := by decide +kernel
theorem dX5_teacherOf_78 : decode cX5_teacherOf 78 = .ok (.istore_n 2, 1) := by decide +kernel
theorem dX5_teacherOf_79 : decode cX5_teacherOf 79 = .ok (.iinc 3 1, 3) := by decide +kernel
theorem dX5_teacherOf_82 : decode cX5_teacherOf 82 = .ok (.goto (-77), 3) := by decide +kernel
theorem dX5_teacherOf_85 : decode cX5_teacherOf 85 = .ok (.iload_n 2, 1) := by decide +kernel
theorem dX5_teacherOf_86 : decode cX5_teacherOf 86 = .ok (.ireturn, 1) := by decide +kernel
theorem dX5_isBorn_0 : decode cX5_isBorn 0 = .ok (.aload_n 0, 1) := by decide +kernel
theorem dX5_isBorn_1 : decode cX5_isBorn 1 = .ok (.iload_n 1, 1) := by decide +kernel
theorem dX5_isBorn_2 : decode cX5_isBorn 2 = .ok (.invokevirtual 105, 3) := by decide +kernel
theorem dX5_isBorn_5 : decode cX5_isBorn 5 = .ok (.istore_n 2, 1) := by decide +kernel
theorem dX5_isBorn_6 : decode cX5_isBorn 6 = .ok (.iconst 0, 1) := by decide +kernel
theorem dX5_isBorn_7 : decode cX5_isBorn 7 = .ok (.istore_n 3, 1) := by decide +kernel
theorem dX5_isBorn_8 : decode cX5_isBorn 8 = .ok (.iload_n 3, 1) := by decide +kernel
theorem dX5_isBorn_9 : decode cX5_isBorn 9 = .ok (.bipush 84, 2) := by decide +kernel
theorem dX5_isBorn_11 : decode cX5_isBorn 11 = .ok (.if_icmp .ge 62, 3) := by decide +kernel
theorem dX5_isBorn_14 : decode cX5_isBorn 14 = .ok (.iload_n 2, 1) := by decide +kernel
theorem dX5_isBorn_15 : decode cX5_isBorn 15 = .ok (.bipush (-6), 2) := by decide +kernel
theorem dX5_isBorn_17 : decode cX5_isBorn 17 = .ok (.if_icmp .ne 7, 3) := by decide +kernel
theorem dX5_isBorn_20 : decode cX5_isBorn 20 = .ok (.iconst 0, 1) := by decide +kernel
theorem dX5_isBorn_21 : decode cX5_isBorn 21 = .ok (.goto 17, 3) := by decide +kernel
theorem dX5_isBorn_24 : decode cX5_isBorn 24 = .ok (.aload_n 0, 1) := by decide +kernel
theorem dX5_isBorn_25 : decode cX5_isBorn 25 = .ok (.getfield 7, 3) := by decide +kernel
theorem dX5_isBorn_28 : decode cX5_isBorn 28 = .ok (.bipush 33, 2) := by decide +kernel
theorem dX5_isBorn_30 : decode cX5_isBorn 30 = .ok (.bipush 84, 2) := by decide +kernel
theorem dX5_isBorn_32 : decode cX5_isBorn 32 = .ok (.iload_n 2, 1) := by decide +kernel
theorem dX5_isBorn_33 : decode cX5_isBorn 33 = .ok (.imul, 1) := by decide +kernel
theorem dX5_isBorn_34 : decode cX5_isBorn 34 = .ok (.iadd, 1) := by decide +kernel
theorem dX5_isBorn_35 : decode cX5_isBorn 35 = .ok (.iload_n 3, 1) := by decide +kernel
theorem dX5_isBorn_36 : decode cX5_isBorn 36 = .ok (.iadd, 1) := by decide +kernel
theorem dX5_isBorn_37 : decode cX5_isBorn 37 = .ok (.iaload, 1) := by decide +kernel
theorem dX5_isBorn_38 : decode cX5_isBorn 38 = .ok (.istore 4, 2) := by decide +kernel
theorem dX5_isBorn_40 : decode cX5_isBorn 40 = .ok (.aload_n 0, 1) := by decide +kernel
theorem dX5_isBorn_41 : decode cX5_isBorn 41 = .ok (.getfield 7, 3) := by decide +kernel
theorem dX5_isBorn_44 : decode cX5_isBorn 44 = .ok (.bipush 33, 2) := by decide +kernel
theorem dX5_isBorn_46 : decode cX5_isBorn 46 = .ok (.bipush 84, 2) := by decide +kernel
theorem dX5_isBorn_48 : decode cX5_isBorn 48 = .ok (.iload_n 1, 1) := by decide +kernel
theorem dX5_isBorn_49 : decode cX5_isBorn 49 = .ok (.imul, 1) := by decide +kernel
theorem dX5_isBorn_50 : decode cX5_isBorn 50 = .ok (.iadd, 1) := by decide +kernel
theorem dX5_isBorn_51 : decode cX5_isBorn 51 = .ok (.iload_n 3, 1) := by decide +kernel
theorem dX5_isBorn_52 : decode cX5_isBorn 52 = .ok (.iadd, 1) := by decide +kernel
theorem dX5_isBorn_53 : decode cX5_isBorn 53 = .ok (.iload 4, 2) := by decide +kernel
theorem dX5_isBorn_55 : decode cX5_isBorn 55 = .ok (.aload_n 0, 1) := by decide +kernel
theorem dX5_isBorn_56 : decode cX5_isBorn 56 = .ok (.getfield 7, 3) := by decide +kernel
theorem dX5_isBorn_59 : decode cX5_isBorn 59 = .ok (.bipush 8, 2) := by decide +kernel
theorem dX5_isBorn_61 : decode cX5_isBorn 61 = .ok (.iaload, 1) := by decide +kernel
theorem dX5_isBorn_62 : decode cX5_isBorn 62 = .ok (.imul, 1) := by decide +kernel
theorem dX5_isBorn_63 : decode cX5_isBorn 63 = .ok (.bipush 100, 2) := by decide +kernel
theorem dX5_isBorn_65 : decode cX5_isBorn 65 = .ok (.idiv, 1) := by decide +kernel
theorem dX5_isBorn_66 : decode cX5_isBorn 66 = .ok (.iastore, 1) := by decide +kernel
theorem dX5_isBorn_67 : decode cX5_isBorn 67 = .ok (.iinc 3 1, 3) := by decide +kernel
theorem dX5_isBorn_70 : decode cX5_isBorn 70 = .ok (.goto (-62), 3) := by decide +kernel
theorem dX5_isBorn_73 : decode cX5_isBorn 73 = .ok (.aload_n 0, 1) := by decide +kernel
theorem dX5_isBorn_74 : decode cX5_isBorn 74 = .ok (.iload_n 1, 1) := by decide +kernel
theorem dX5_isBorn_75 : decode cX5_isBorn 75 = .ok (.iconst 1, 1) := by decide +kernel
theorem dX5_isBorn_76 : decode cX5_isBorn 76 = .ok (.iconst 0, 1) := by decide +kernel
theorem dX5_isBorn_77 : decode cX5_isBorn 77 = .ok (.invokevirtual 77, 3) := by decide +kernel
theorem dX5_isBorn_80 : decode cX5_isBorn 80 = .ok (.aload_n 0, 1) := by decide +kernel
theorem dX5_isBorn_81 : decode cX5_isBorn 81 = .ok (.iload_n 1, 1) := by decide +kernel
theorem dX5_isBorn_82 : decode cX5_isBorn 82 = .ok (.iconst 2, 1) := by decide +kernel
theorem dX5_isBorn_83 : decode cX5_isBorn 83 = .ok (.iconst 0, 1) := by decide +kernel
theorem dX5_isBorn_84 : decode cX5_isBorn 84 = .ok (.invokevirtual 77, 3) := by decide +kernel
theorem dX5_isBorn_87 : decode cX5_isBorn 87 = .ok (.aload_n 0, 1) := by decide +kernel
theorem dX5_isBorn_88 : decode cX5_isBorn 88 = .ok (.getfield 7, 3) := by decide +kernel
theorem dX5_isBorn_91 : decode cX5_isBorn 91 = .ok (.iconst 3, 1) := by decide +kernel
theorem dX5_isBorn_92 : decode cX5_isBorn 92 = .ok (.dup2, 1) := by decide +kernel
theorem dX5_isBorn_93 : decode cX5_isBorn 93 = .ok (.iaload, 1) := by decide +kernel
theorem dX5_isBorn_94 : decode cX5_isBorn 94 = .ok (.iconst 1, 1) := by decide +kernel
theorem dX5_isBorn_95 : decode cX5_isBorn 95 = .ok (.iadd, 1) := by decide +kernel
theorem dX5_isBorn_96 : decode cX5_isBorn 96 = .ok (.iastore, 1) := by decide +kernel
theorem dX5_isBorn_97 : decode cX5_isBorn 97 = .ok (.return_, 1) := by decide +kernel
theorem dX5_passesYear_0 : decode cX5_passesYear 0 = .ok (.iconst 0, 1) := by decide +kernel
theorem dX5_passesYear_1 : decode cX5_passesYear 1 = .ok (.istore_n 1, 1) := by decide +kernel
theorem dX5_passesYear_2 : decode cX5_passesYear 2 = .ok (.iload_n 1, 1) := by decide +kernel
theorem dX5_passesYear_3 : decode cX5_passesYear 3 = .ok (.bipush 8, 2) := by decide +kernel
theorem dX5_passesYear_5 : decode cX5_passesYear 5 = .ok (.if_icmp .ge 28, 3) := by decide +kernel
theorem dX5_passesYear_8 : decode cX5_passesYear 8 = .ok (.aload_n 0, 1) := by decide +kernel
theorem dX5_passesYear_9 : decode cX5_passesYear 9 = .ok (.iload_n 1, 1) := by decide +kernel
theorem dX5_passesYear_10 : decode cX5_passesYear 10 = .ok (.iconst 1, 1) := by decide +kernel
theorem dX5_passesYear_11 : decode cX5_passesYear 11 = .ok (.aload_n 0, 1) := by decide +kernel
theorem dX5_passesYear_12 : decode cX5_passesYear 12 = .ok (.iload_n 1, 1) := by decide +kernel
theorem dX5_passesYear_13 : decode cX5_passesYear 13 = .ok (.iconst 1, 1) := by decide +kernel
theorem dX5_passesYear_14 : decode cX5_passesYear 14 = .ok (.invokevirtual 34, 3) := by decide +kernel
theorem dX5_passesYear_17 : decode cX5_passesYear 17 = .ok (.aload_n 0, 1) := by decide +kernel
theorem dX5_passesYear_18 : decode cX5_passesYear 18 = .ok (.iload_n 1, 1) := by decide +kernel
theorem dX5_passesYear_19 : decode cX5_passesYear 19 = .ok (.iconst 0, 1) := by decide +kernel
theorem dX5_passesYear_20 : decode cX5_passesYear 20 = .ok (.invokevirtual 34, 3) := by decide +kernel
theorem dX5_passesYear_23 : decode cX5_passesYear 23 = .ok (.iadd, 1) := by decide +kernel
theorem dX5_passesYear_24 : decode cX5_passesYear 24 = .ok (.invokevirtual 77, 3) := by decide +kernel
theorem dX5_passesYear_27 : decode cX5_passesYear 27 = .ok (.iinc 1 1, 3) := by decide +kernel
theorem dX5_passesYear_30 : decode cX5_passesYear 30 = .ok (.goto (-28), 3) := by decide +kernel
theorem dX5_passesYear_33 : decode cX5_passesYear 33 = .ok (.iconst 0, 1) := by decide +kernel
theorem dX5_passesYear_34 : decode cX5_passesYear 34 = .ok (.istore_n 1, 1) := by decide +kernel
theorem dX5_passesYear_35 : decode cX5_passesYear 35 = .ok (.iload_n 1, 1) := by decide +kernel
theorem dX5_passesYear_36 : decode cX5_passesYear 36 = .ok (.bipush 8, 2) := by decide +kernel
theorem dX5_passesYear_38 : decode cX5_passesYear 38 = .ok (.if_icmp .ge 38, 3) := by decide +kernel
theorem dX5_passesYear_41 : decode cX5_passesYear 41 = .ok (.aload_n 0, 1) := by decide +kernel
theorem dX5_passesYear_42 : decode cX5_passesYear 42 = .ok (.iload_n 1, 1) := by decide +kernel
theorem dX5_passesYear_43 : decode cX5_passesYear 43 = .ok (.invokevirtual 45, 3) := by decide +kernel
theorem dX5_passesYear_46 : decode cX5_passesYear 46 = .ok (.ifCond .eq 24, 3) := by decide +kernel
theorem dX5_passesYear_49 : decode cX5_passesYear 49 = .ok (.aload_n 0, 1) := by decide +kernel
theorem dX5_passesYear_50 : decode cX5_passesYear 50 = .ok (.iload_n 1, 1) := by decide +kernel
theorem dX5_passesYear_51 : decode cX5_passesYear 51 = .ok (.iconst 1, 1) := by decide +kernel
theorem dX5_passesYear_52 : decode cX5_passesYear 52 = .ok (.invokevirtual 34, 3) := by decide +kernel
theorem dX5_passesYear_55 : decode cX5_passesYear 55 = .ok (.aload_n 0, 1) := by decide +kernel
theorem dX5_passesYear_56 : decode cX5_passesYear 56 = .ok (.getfield 7, 3) := by decide +kernel
theorem dX5_passesYear_59 : decode cX5_passesYear 59 = .ok (.bipush 7, 2) := by decide +kernel
theorem dX5_passesYear_61 : decode cX5_passesYear 61 = .ok (.iaload, 1) := by decide +kernel
theorem dX5_passesYear_62 : decode cX5_passesYear 62 = .ok (.if_icmp .le 8, 3) := by decide +kernel
theorem dX5_passesYear_65 : decode cX5_passesYear 65 = .ok (.aload_n 0, 1) := by decide +kernel
theorem dX5_passesYear_66 : decode cX5_passesYear 66 = .ok (.iload_n 1, 1) := by decide +kernel
theorem dX5_passesYear_67 : decode cX5_passesYear 67 = .ok (.invokevirtual 108, 3) := by decide +kernel
theorem dX5_passesYear_70 : decode cX5_passesYear 70 = .ok (.iinc 1 1, 3) := by decide +kernel
theorem dX5_passesYear_73 : decode cX5_passesYear 73 = .ok (.goto (-38), 3) := by decide +kernel
theorem dX5_passesYear_76 : decode cX5_passesYear 76 = .ok (.aload_n 0, 1) := by decide +kernel
theorem dX5_passesYear_77 : decode cX5_passesYear 77 = .ok (.getfield 7, 3) := by decide +kernel
theorem dX5_passesYear_80 : decode cX5_passesYear 80 = .ok (.iconst 4, 1) := by decide +kernel
theorem dX5_passesYear_81 : decode cX5_passesYear 81 = .ok (.dup2, 1) := by decide +kernel
theorem dX5_passesYear_82 : decode cX5_passesYear 82 = .ok (.iaload, 1) := by decide +kernel
theorem dX5_passesYear_83 : decode cX5_passesYear 83 = .ok (.iconst 1, 1) := by decide +kernel
theorem dX5_passesYear_84 : decode cX5_passesYear 84 = .ok (.iadd, 1) := by decide +kernel
theorem dX5_passesYear_85 : decode cX5_passesYear 85 = .ok (.iastore, 1) := by decide +kernel
theorem dX5_passesYear_86 : decode cX5_passesYear 86 = .ok (.return_, 1) := by decide +kernel
theorem dX5_age_0 : decode cX5_age 0 = .ok (.iload_n 1, 1) := by decide +kernel
theorem dX5_age_1 : decode cX5_age 1 = .ok (.iconst 1, 1) := by decide +kernel
theorem dX5_age_2 : decode cX5_age 2 = .ok (.bipush 99, 2) := by decide +kernel
theorem dX5_age_4 : decode cX5_age 4 = .ok (.invokestatic 30, 3) := by decide +kernel
theorem dX5_age_7 : decode cX5_age 7 = .ok (.ifCond .ne 6, 3) := by decide +kernel
theorem dX5_age_10 : decode cX5_age 10 = .ok (.bipush (-2), 2) := by decide +kernel
theorem dX5_age_12 : decode cX5_age 12 = .ok (.ireturn, 1) := by decide +kernel
theorem dX5_age_13 : decode cX5_age 13 = .ok (.aload_n 0, 1) := by decide +kernel
theorem dX5_age_14 : decode cX5_age 14 = .ok (.invokevirtual 86, 3) := by decide +kernel
theorem dX5_age_17 : decode cX5_age 17 = .ok (.aload_n 0, 1) := by decide +kernel
theorem dX5_age_18 : decode cX5_age 18 = .ok (.getfield 7, 3) := by decide +kernel
theorem dX5_age_21 : decode cX5_age 21 = .ok (.iconst 3, 1) := by decide +kernel
theorem dX5_age_22 : decode cX5_age 22 = .ok (.iaload, 1) := by decide +kernel
theorem dX5_age_23 : decode cX5_age 23 = .ok (.istore_n 2, 1) := by decide +kernel
theorem dX5_age_24 : decode cX5_age 24 = .ok (.iconst 0, 1) := by decide +kernel
theorem dX5_age_25 : decode cX5_age 25 = .ok (.istore_n 3, 1) := by decide +kernel
theorem dX5_age_26 : decode cX5_age 26 = .ok (.iload_n 3, 1) := by decide +kernel
theorem dX5_age_27 : decode cX5_age 27 = .ok (.iload_n 1, 1) := by decide +kernel
theorem dX5_age_28 : decode cX5_age 28 = .ok (.if_icmp .ge 13, 3) := by decide +kernel
theorem dX5_age_31 : decode cX5_age 31 = .ok (.aload_n 0, 1) := by decide +kernel
theorem dX5_age_32 : decode cX5_age 32 = .ok (.invokevirtual 112, 3) := by decide +kernel
theorem dX5_age_35 : decode cX5_age 35 = .ok (.iinc 3 1, 3) := by decide +kernel
theorem dX5_age_38 : decode cX5_age 38 = .ok (.goto (-12), 3) := by decide +kernel
theorem dX5_age_41 : decode cX5_age 41 = .ok (.aload_n 0, 1) := by decide +kernel
theorem dX5_age_42 : decode cX5_age 42 = .ok (.getfield 7, 3) := by decide +kernel
theorem dX5_age_45 : decode cX5_age 45 = .ok (.iconst 3, 1) := by decide +kernel
theorem dX5_age_46 : decode cX5_age 46 = .ok (.iaload, 1) := by decide +kernel
theorem dX5_age_47 : decode cX5_age 47 = .ok (.iload_n 2, 1) := by decide +kernel
theorem dX5_age_48 : decode cX5_age 48 = .ok (.isub, 1) := by decide +kernel
theorem dX5_age_49 : decode cX5_age 49 = .ok (.ireturn, 1) := by decide +kernel
theorem dX5_come_0 : decode cX5_come 0 = .ok (.iconst 0, 1) := by decide +kernel
theorem dX5_come_1 : decode cX5_come 1 = .ok (.istore_n 1, 1) := by decide +kernel
theorem dX5_come_2 : decode cX5_come 2 = .ok (.iload_n 1, 1) := by decide +kernel
theorem dX5_come_3 : decode cX5_come 3 = .ok (.bipush 8, 2) := by decide +kernel
theorem dX5_come_5 : decode cX5_come 5 = .ok (.if_icmp .ge 17, 3) := by decide +kernel
theorem dX5_come_8 : decode cX5_come 8 = .ok (.aload_n 0, 1) := by decide +kernel
theorem dX5_come_9 : decode cX5_come 9 = .ok (.iload_n 1, 1) := by decide +kernel
theorem dX5_come_10 : decode cX5_come 10 = .ok (.invokevirtual 45, 3) := by decide +kernel
theorem dX5_come_13 : decode cX5_come 13 = .ok (.ifCond .eq 9, 3) := by decide +kernel
theorem dX5_come_16 : decode cX5_come 16 = .ok (.iinc 1 1, 3) := by decide +kernel
theorem dX5_come_19 : decode cX5_come 19 = .ok (.goto (-17), 3) := by decide +kernel
theorem dX5_come_22 : decode cX5_come 22 = .ok (.iload_n 1, 1) := by decide +kernel
theorem dX5_come_23 : decode cX5_come 23 = .ok (.bipush 8, 2) := by decide +kernel
theorem dX5_come_25 : decode cX5_come 25 = .ok (.if_icmp .ne 6, 3) := by decide +kernel
theorem dX5_come_28 : decode cX5_come 28 = .ok (.bipush (-4), 2) := by decide +kernel
theorem dX5_come_30 : decode cX5_come 30 = .ok (.ireturn, 1) := by decide +kernel
theorem dX5_come_31 : decode cX5_come 31 = .ok (.aload_n 0, 1) := by decide +kernel
theorem dX5_come_32 : decode cX5_come 32 = .ok (.invokevirtual 86, 3) := by decide +kernel
theorem dX5_come_35 : decode cX5_come 35 = .ok (.aload_n 0, 1) := by decide +kernel
theorem dX5_come_36 : decode cX5_come 36 = .ok (.iload_n 1, 1) := by decide +kernel
theorem dX5_come_37 : decode cX5_come 37 = .ok (.iconst 0, 1) := by decide +kernel
theorem dX5_come_38 : decode cX5_come 38 = .ok (.iconst 1, 1) := by decide +kernel
theorem dX5_come_39 : decode cX5_come 39 = .ok (.invokevirtual 77, 3) := by decide +kernel
theorem dX5_come_42 : decode cX5_come 42 = .ok (.iload_n 1, 1) := by decide +kernel
theorem dX5_come_43 : decode cX5_come 43 = .ok (.ireturn, 1) := by decide +kernel
theorem dX5_go_0 : decode cX5_go 0 = .ok (.aload_n 0, 1) := by decide +kernel
theorem dX5_go_1 : decode cX5_go 1 = .ok (.iload_n 1, 1) := by decide +kernel
theorem dX5_go_2 : decode cX5_go 2 = .ok (.invokevirtual 45, 3) := by decide +kernel
theorem dX5_go_5 : decode cX5_go 5 = .ok (.ifCond .ne 5, 3) := by decide +kernel
theorem dX5_go_8 : decode cX5_go 8 = .ok (.iconst (-1), 1) := by decide +kernel
theorem dX5_go_9 : decode cX5_go 9 = .ok (.ireturn, 1) := by decide +kernel
theorem dX5_go_10 : decode cX5_go 10 = .ok (.aload_n 0, 1) := by decide +kernel
theorem dX5_go_11 : decode cX5_go 11 = .ok (.invokevirtual 86, 3) := by decide +kernel
theorem dX5_go_14 : decode cX5_go 14 = .ok (.aload_n 0, 1) := by decide +kernel
theorem dX5_go_15 : decode cX5_go 15 = .ok (.iload_n 1, 1) := by decide +kernel
theorem dX5_go_16 : decode cX5_go 16 = .ok (.iconst 0, 1) := by decide +kernel
theorem dX5_go_17 : decode cX5_go 17 = .ok (.iconst 0, 1) := by decide +kernel
theorem dX5_go_18 : decode cX5_go 18 = .ok (.invokevirtual 77, 3) := by decide +kernel
theorem dX5_go_21 : decode cX5_go 21 = .ok (.aload_n 0, 1) := by decide +kernel
theorem dX5_go_22 : decode cX5_go 22 = .ok (.iload_n 1, 1) := by decide +kernel
theorem dX5_go_23 : decode cX5_go 23 = .ok (.iconst 1, 1) := by decide +kernel
theorem dX5_go_24 : decode cX5_go 24 = .ok (.iconst 0, 1) := by decide +kernel
theorem dX5_go_25 : decode cX5_go 25 = .ok (.invokevirtual 77, 3) := by decide +kernel
theorem dX5_go_28 : decode cX5_go 28 = .ok (.aload_n 0, 1) := by decide +kernel
theorem dX5_go_29 : decode cX5_go 29 = .ok (.iload_n 1, 1) := by decide +kernel
theorem dX5_go_30 : decode cX5_go 30 = .ok (.iconst 2, 1) := by decide +kernel
theorem dX5_go_31 : decode cX5_go 31 = .ok (.iconst 0, 1) := by decide +kernel
theorem dX5_go_32 : decode cX5_go 32 = .ok (.invokevirtual 77, 3) := by decide +kernel
theorem dX5_go_35 : decode cX5_go 35 = .ok (.iconst 0, 1) := by decide +kernel
theorem dX5_go_36 : decode cX5_go 36 = .ok (.istore_n 2, 1) := by decide +kernel
theorem dX5_go_37 : decode cX5_go 37 = .ok (.iload_n 2, 1) := by decide +kernel
theorem dX5_go_38 : decode cX5_go 38 = .ok (.bipush 84, 2) := by decide +kernel
theorem dX5_go_40 : decode cX5_go 40 = .ok (.if_icmp .ge 24, 3) := by decide +kernel
theorem dX5_go_43 : decode cX5_go 43 = .ok (.aload_n 0, 1) := by decide +kernel
theorem dX5_go_44 : decode cX5_go 44 = .ok (.getfield 7, 3) := by decide +kernel
theorem dX5_go_47 : decode cX5_go 47 = .ok (.bipush 33, 2) := by decide +kernel
theorem dX5_go_49 : decode cX5_go 49 = .ok (.bipush 84, 2) := by decide +kernel
theorem dX5_go_51 : decode cX5_go 51 = .ok (.iload_n 1, 1) := by decide +kernel
theorem dX5_go_52 : decode cX5_go 52 = .ok (.imul, 1) := by decide +kernel
theorem dX5_go_53 : decode cX5_go 53 = .ok (.iadd, 1) := by decide +kernel
theorem dX5_go_54 : decode cX5_go 54 = .ok (.iload_n 2, 1) := by decide +kernel
theorem dX5_go_55 : decode cX5_go 55 = .ok (.iadd, 1) := by decide +kernel
theorem dX5_go_56 : decode cX5_go 56 = .ok (.iconst 0, 1) := by decide +kernel
theorem dX5_go_57 : decode cX5_go 57 = .ok (.iastore, 1) := by decide +kernel
theorem dX5_go_58 : decode cX5_go 58 = .ok (.iinc 2 1, 3) := by decide +kernel
theorem dX5_go_61 : decode cX5_go 61 = .ok (.goto (-24), 3) := by decide +kernel
theorem dX5_go_64 : decode cX5_go 64 = .ok (.aload_n 0, 1) := by decide +kernel
theorem dX5_go_65 : decode cX5_go 65 = .ok (.invokevirtual 92, 3) := by decide +kernel
theorem dX5_go_68 : decode cX5_go 68 = .ok (.ireturn, 1) := by decide +kernel
theorem dX5_isSetting_0 : decode cX5_isSetting 0 = .ok (.iload_n 0, 1) := by decide +kernel
theorem dX5_isSetting_1 : decode cX5_isSetting 1 = .ok (.iconst 0, 1) := by decide +kernel
theorem dX5_isSetting_2 : decode cX5_isSetting 2 = .ok (.iconst 3, 1) := by decide +kernel
theorem dX5_isSetting_3 : decode cX5_isSetting 3 = .ok (.invokestatic 30, 3) := by decide +kernel
theorem dX5_isSetting_6 : decode cX5_isSetting 6 = .ok (.ireturn, 1) := by decide +kernel
theorem dX5_set_0 : decode cX5_set 0 = .ok (.iload_n 1, 1) := by decide +kernel
theorem dX5_set_1 : decode cX5_set 1 = .ok (.invokestatic 115, 3) := by decide +kernel
theorem dX5_set_4 : decode cX5_set 4 = .ok (.ifCond .ne 5, 3) := by decide +kernel
theorem dX5_set_7 : decode cX5_set 7 = .ok (.iconst (-1), 1) := by decide +kernel
theorem dX5_set_8 : decode cX5_set 8 = .ok (.ireturn, 1) := by decide +kernel
theorem dX5_set_9 : decode cX5_set 9 = .ok (.iload_n 1, 1) := by decide +kernel
theorem dX5_set_10 : decode cX5_set 10 = .ok (.ifCond .ne 7, 3) := by decide +kernel
theorem dX5_set_13 : decode cX5_set 13 = .ok (.iconst 1, 1) := by decide +kernel
theorem dX5_set_14 : decode cX5_set 14 = .ok (.goto 13, 3) := by decide +kernel
theorem dX5_set_17 : decode cX5_set 17 = .ok (.iload_n 1, 1) := by decide +kernel
theorem dX5_set_18 : decode cX5_set 18 = .ok (.iconst 2, 1) := by decide +kernel
theorem dX5_set_19 : decode cX5_set 19 = .ok (.if_icmp .ne 7, 3) := by decide +kernel
theorem dX5_set_22 : decode cX5_set 22 = .ok (.iconst 5, 1) := by decide +kernel
theorem dX5_set_23 : decode cX5_set 23 = .ok (.goto 4, 3) := by decide +kernel
theorem dX5_set_26 : decode cX5_set 26 = .ok (.iconst 0, 1) := by decide +kernel
theorem dX5_set_27 : decode cX5_set 27 = .ok (.istore_n 3, 1) := by decide +kernel
theorem dX5_set_28 : decode cX5_set 28 = .ok (.iload_n 2, 1) := by decide +kernel
theorem dX5_set_29 : decode cX5_set 29 = .ok (.iload_n 3, 1) := by decide +kernel
theorem dX5_set_30 : decode cX5_set 30 = .ok (.iload_n 1, 1) := by decide +kernel
theorem dX5_set_31 : decode cX5_set 31 = .ok (.iconst 2, 1) := by decide +kernel
theorem dX5_set_32 : decode cX5_set 32 = .ok (.if_icmp .ge 8, 3) := by decide +kernel
theorem dX5_set_35 : decode cX5_set 35 = .ok (.bipush 9, 2) := by decide +kernel
theorem dX5_set_37 : decode cX5_set 37 = .ok (.goto 15, 3) := by decide +kernel
theorem dX5_set_40 : decode cX5_set 40 = .ok (.iload_n 1, 1) := by decide +kernel
theorem dX5_set_41 : decode cX5_set 41 = .ok (.iconst 2, 1) := by decide +kernel
theorem dX5_set_42 : decode cX5_set 42 = .ok (.if_icmp .ne 8, 3) := by decide +kernel
theorem dX5_set_45 : decode cX5_set 45 = .ok (.bipush 99, 2) := by decide +kernel
theorem dX5_set_47 : decode cX5_set 47 = .ok (.goto 5, 3) := by decide +kernel
theorem dX5_set_50 : decode cX5_set 50 = .ok (.bipush 100, 2) := by decide +kernel
theorem dX5_set_52 : decode cX5_set 52 = .ok (.invokestatic 30, 3) := by decide +kernel
theorem dX5_set_55 : decode cX5_set 55 = .ok (.ifCond .ne 6, 3) := by decide +kernel
theorem dX5_set_58 : decode cX5_set 58 = .ok (.bipush (-2), 2) := by decide +kernel
theorem dX5_set_60 : decode cX5_set 60 = .ok (.ireturn, 1) := by decide +kernel
theorem dX5_set_61 : decode cX5_set 61 = .ok (.aload_n 0, 1) := by decide +kernel
theorem dX5_set_62 : decode cX5_set 62 = .ok (.invokevirtual 86, 3) := by decide +kernel
theorem dX5_set_65 : decode cX5_set 65 = .ok (.aload_n 0, 1) := by decide +kernel
theorem dX5_set_66 : decode cX5_set 66 = .ok (.getfield 7, 3) := by decide +kernel
theorem dX5_set_69 : decode cX5_set 69 = .ok (.iconst 5, 1) := by decide +kernel
theorem dX5_set_70 : decode cX5_set 70 = .ok (.iload_n 1, 1) := by decide +kernel
theorem dX5_set_71 : decode cX5_set 71 = .ok (.iadd, 1) := by decide +kernel
theorem dX5_set_72 : decode cX5_set 72 = .ok (.iaload, 1) := by decide +kernel
theorem dX5_set_73 : decode cX5_set 73 = .ok (.istore 4, 2) := by decide +kernel
theorem dX5_set_75 : decode cX5_set 75 = .ok (.aload_n 0, 1) := by decide +kernel
theorem dX5_set_76 : decode cX5_set 76 = .ok (.getfield 7, 3) := by decide +kernel
theorem dX5_set_79 : decode cX5_set 79 = .ok (.iconst 5, 1) := by decide +kernel
theorem dX5_set_80 : decode cX5_set 80 = .ok (.iload_n 1, 1) := by decide +kernel
theorem dX5_set_81 : decode cX5_set 81 = .ok (.iadd, 1) := by decide +kernel
theorem dX5_set_82 : decode cX5_set 82 = .ok (.iload_n 2, 1) := by decide +kernel
theorem dX5_set_83 : decode cX5_set 83 = .ok (.iastore, 1) := by decide +kernel
theorem dX5_set_84 : decode cX5_set 84 = .ok (.iload 4, 2) := by decide +kernel
theorem dX5_set_86 : decode cX5_set 86 = .ok (.ireturn, 1) := by decide +kernel
theorem dX5_setSeed_0 : decode cX5_setSeed 0 = .ok (.iload_n 1, 1) := by decide +kernel
theorem dX5_setSeed_1 : decode cX5_setSeed 1 = .ok (.iconst 0, 1) := by decide +kernel
theorem dX5_setSeed_2 : decode cX5_setSeed 2 = .ok (.ldc 118, 2) := by decide +kernel
theorem dX5_setSeed_4 : decode cX5_setSeed 4 = .ok (.invokestatic 30, 3) := by decide +kernel
theorem dX5_setSeed_7 : decode cX5_setSeed 7 = .ok (.ifCond .ne 6, 3) := by decide +kernel
theorem dX5_setSeed_10 : decode cX5_setSeed 10 = .ok (.bipush (-2), 2) := by decide +kernel
theorem dX5_setSeed_12 : decode cX5_setSeed 12 = .ok (.ireturn, 1) := by decide +kernel
theorem dX5_setSeed_13 : decode cX5_setSeed 13 = .ok (.aload_n 0, 1) := by decide +kernel
theorem dX5_setSeed_14 : decode cX5_setSeed 14 = .ok (.invokevirtual 86, 3) := by decide +kernel
theorem dX5_setSeed_17 : decode cX5_setSeed 17 = .ok (.aload_n 0, 1) := by decide +kernel
theorem dX5_setSeed_18 : decode cX5_setSeed 18 = .ok (.getfield 7, 3) := by decide +kernel
theorem dX5_setSeed_21 : decode cX5_setSeed 21 = .ok (.iconst 0, 1) := by decide +kernel
theorem dX5_setSeed_22 : decode cX5_setSeed 22 = .ok (.iaload, 1) := by decide +kernel
theorem dX5_setSeed_23 : decode cX5_setSeed 23 = .ok (.istore_n 2, 1) := by decide +kernel
theorem dX5_setSeed_24 : decode cX5_setSeed 24 = .ok (.aload_n 0, 1) := by decide +kernel
theorem dX5_setSeed_25 : decode cX5_setSeed 25 = .ok (.getfield 7, 3) := by decide +kernel
theorem dX5_setSeed_28 : decode cX5_setSeed 28 = .ok (.iconst 0, 1) := by decide +kernel
theorem dX5_setSeed_29 : decode cX5_setSeed 29 = .ok (.iload_n 1, 1) := by decide +kernel
theorem dX5_setSeed_30 : decode cX5_setSeed 30 = .ok (.iastore, 1) := by decide +kernel
theorem dX5_setSeed_31 : decode cX5_setSeed 31 = .ok (.iload_n 2, 1) := by decide +kernel
theorem dX5_setSeed_32 : decode cX5_setSeed 32 = .ok (.ireturn, 1) := by decide +kernel
theorem dX5_teach_0 : decode cX5_teach 0 = .ok (.aload_n 0, 1) := by decide +kernel
theorem dX5_teach_1 : decode cX5_teach 1 = .ok (.iload_n 1, 1) := by decide +kernel
theorem dX5_teach_2 : decode cX5_teach 2 = .ok (.invokevirtual 45, 3) := by decide +kernel
theorem dX5_teach_5 : decode cX5_teach 5 = .ok (.ifCond .eq 17, 3) := by decide +kernel
theorem dX5_teach_8 : decode cX5_teach 8 = .ok (.iload_n 2, 1) := by decide +kernel
theorem dX5_teach_9 : decode cX5_teach 9 = .ok (.invokestatic 80, 3) := by decide +kernel
theorem dX5_teach_12 : decode cX5_teach 12 = .ok (.ifCond .eq 10, 3) := by decide +kernel
theorem dX5_teach_15 : decode cX5_teach 15 = .ok (.iload_n 3, 1) := by decide +kernel
theorem dX5_teach_16 : decode cX5_teach 16 = .ok (.invokestatic 119, 3) := by decide +kernel
theorem dX5_teach_19 : decode cX5_teach 19 = .ok (.ifCond .ne 5, 3) := by decide +kernel
theorem dX5_teach_22 : decode cX5_teach 22 = .ok (.iconst (-1), 1) := by decide +kernel
theorem dX5_teach_23 : decode cX5_teach 23 = .ok (.ireturn, 1) := by decide +kernel
theorem dX5_teach_24 : decode cX5_teach 24 = .ok (.iload 4, 2) := by decide +kernel
theorem dX5_teach_26 : decode cX5_teach 26 = .ok (.iconst 0, 1) := by decide +kernel
theorem dX5_teach_27 : decode cX5_teach 27 = .ok (.bipush 99, 2) := by decide +kernel
theorem dX5_teach_29 : decode cX5_teach 29 = .ok (.invokestatic 30, 3) := by decide +kernel
theorem dX5_teach_32 : decode cX5_teach 32 = .ok (.ifCond .ne 6, 3) := by decide +kernel
theorem dX5_teach_35 : decode cX5_teach 35 = .ok (.bipush (-2), 2) := by decide +kernel
theorem dX5_teach_37 : decode cX5_teach 37 = .ok (.ireturn, 1) := by decide +kernel
theorem dX5_teach_38 : decode cX5_teach 38 = .ok (.aload_n 0, 1) := by decide +kernel
theorem dX5_teach_39 : decode cX5_teach 39 = .ok (.invokevirtual 86, 3) := by decide +kernel
theorem dX5_teach_42 : decode cX5_teach 42 = .ok (.aload_n 0, 1) := by decide +kernel
theorem dX5_teach_43 : decode cX5_teach 43 = .ok (.iload_n 1, 1) := by decide +kernel
theorem dX5_teach_44 : decode cX5_teach 44 = .ok (.iload_n 2, 1) := by decide +kernel
theorem dX5_teach_45 : decode cX5_teach 45 = .ok (.iload_n 3, 1) := by decide +kernel
theorem dX5_teach_46 : decode cX5_teach 46 = .ok (.invokevirtual 42, 3) := by decide +kernel
theorem dX5_teach_49 : decode cX5_teach 49 = .ok (.istore 5, 2) := by decide +kernel
theorem dX5_teach_51 : decode cX5_teach 51 = .ok (.aload_n 0, 1) := by decide +kernel
theorem dX5_teach_52 : decode cX5_teach 52 = .ok (.getfield 7, 3) := by decide +kernel
theorem dX5_teach_55 : decode cX5_teach 55 = .ok (.iload_n 1, 1) := by decide +kernel
theorem dX5_teach_56 : decode cX5_teach 56 = .ok (.iload_n 2, 1) := by decide +kernel
theorem dX5_teach_57 : decode cX5_teach 57 = .ok (.iload_n 3, 1) := by decide +kernel
theorem dX5_teach_58 : decode cX5_teach 58 = .ok (.invokestatic 38, 3) := by decide +kernel
theorem dX5_teach_61 : decode cX5_teach 61 = .ok (.iload 4, 2) := by decide +kernel
theorem dX5_teach_63 : decode cX5_teach 63 = .ok (.iastore, 1) := by decide +kernel
theorem dX5_teach_64 : decode cX5_teach 64 = .ok (.iload 5, 2) := by decide +kernel
theorem dX5_teach_66 : decode cX5_teach 66 = .ok (.ireturn, 1) := by decide +kernel
theorem dX5_setAge_0 : decode cX5_setAge 0 = .ok (.aload_n 0, 1) := by decide +kernel
theorem dX5_setAge_1 : decode cX5_setAge 1 = .ok (.iload_n 1, 1) := by decide +kernel
theorem dX5_setAge_2 : decode cX5_setAge 2 = .ok (.invokevirtual 45, 3) := by decide +kernel
theorem dX5_setAge_5 : decode cX5_setAge 5 = .ok (.ifCond .ne 5, 3) := by decide +kernel
theorem dX5_setAge_8 : decode cX5_setAge 8 = .ok (.iconst (-1), 1) := by decide +kernel
theorem dX5_setAge_9 : decode cX5_setAge 9 = .ok (.ireturn, 1) := by decide +kernel
theorem dX5_setAge_10 : decode cX5_setAge 10 = .ok (.iload_n 2, 1) := by decide +kernel
theorem dX5_setAge_11 : decode cX5_setAge 11 = .ok (.iconst 0, 1) := by decide +kernel
theorem dX5_setAge_12 : decode cX5_setAge 12 = .ok (.bipush 99, 2) := by decide +kernel
theorem dX5_setAge_14 : decode cX5_setAge 14 = .ok (.invokestatic 30, 3) := by decide +kernel
theorem dX5_setAge_17 : decode cX5_setAge 17 = .ok (.ifCond .ne 6, 3) := by decide +kernel
theorem dX5_setAge_20 : decode cX5_setAge 20 = .ok (.bipush (-2), 2) := by decide +kernel
theorem dX5_setAge_22 : decode cX5_setAge 22 = .ok (.ireturn, 1) := by decide +kernel
theorem dX5_setAge_23 : decode cX5_setAge 23 = .ok (.aload_n 0, 1) := by decide +kernel
theorem dX5_setAge_24 : decode cX5_setAge 24 = .ok (.invokevirtual 86, 3) := by decide +kernel
theorem dX5_setAge_27 : decode cX5_setAge 27 = .ok (.aload_n 0, 1) := by decide +kernel
theorem dX5_setAge_28 : decode cX5_setAge 28 = .ok (.iload_n 1, 1) := by decide +kernel
theorem dX5_setAge_29 : decode cX5_setAge 29 = .ok (.iconst 1, 1) := by decide +kernel
theorem dX5_setAge_30 : decode cX5_setAge 30 = .ok (.invokevirtual 34, 3) := by decide +kernel
theorem dX5_setAge_33 : decode cX5_setAge 33 = .ok (.istore_n 3, 1) := by decide +kernel
theorem dX5_setAge_34 : decode cX5_setAge 34 = .ok (.aload_n 0, 1) := by decide +kernel
theorem dX5_setAge_35 : decode cX5_setAge 35 = .ok (.iload_n 1, 1) := by decide +kernel
theorem dX5_setAge_36 : decode cX5_setAge 36 = .ok (.iconst 1, 1) := by decide +kernel
theorem dX5_setAge_37 : decode cX5_setAge 37 = .ok (.iload_n 2, 1) := by decide +kernel
theorem dX5_setAge_38 : decode cX5_setAge 38 = .ok (.invokevirtual 77, 3) := by decide +kernel
theorem dX5_setAge_41 : decode cX5_setAge 41 = .ok (.iload_n 3, 1) := by decide +kernel
theorem dX5_setAge_42 : decode cX5_setAge 42 = .ok (.ireturn, 1) := by decide +kernel
theorem dX5_allWeights_0 : decode cX5_allWeights 0 = .ok (.iconst 0, 1) := by decide +kernel
theorem dX5_allWeights_1 : decode cX5_allWeights 1 = .ok (.istore_n 1, 1) := by decide +kernel
theorem dX5_allWeights_2 : decode cX5_allWeights 2 = .ok (.bipush 33, 2) := by decide +kernel
theorem dX5_allWeights_4 : decode cX5_allWeights 4 = .ok (.istore_n 2, 1) := by decide +kernel
theorem dX5_allWeights_5 : decode cX5_allWeights 5 = .ok (.iload_n 2, 1) := by decide +kernel
theorem dX5_allWeights_6 : decode cX5_allWeights 6 = .ok (.sipush 705, 3) := by decide +kernel
theorem dX5_allWeights_9 : decode cX5_allWeights 9 = .ok (.if_icmp .ge 18, 3) := by decide +kernel
theorem dX5_allWeights_12 : decode cX5_allWeights 12 = .ok (.iload_n 1, 1) := by decide +kernel
theorem dX5_allWeights_13 : decode cX5_allWeights 13 = .ok (.aload_n 0, 1) := by decide +kernel
theorem dX5_allWeights_14 : decode cX5_allWeights 14 = .ok (.getfield 7, 3) := by decide +kernel
theorem dX5_allWeights_17 : decode cX5_allWeights 17 = .ok (.iload_n 2, 1) := by decide +kernel
theorem dX5_allWeights_18 : decode cX5_allWeights 18 = .ok (.iaload, 1) := by decide +kernel
theorem dX5_allWeights_19 : decode cX5_allWeights 19 = .ok (.iadd, 1) := by decide +kernel
theorem dX5_allWeights_20 : decode cX5_allWeights 20 = .ok (.istore_n 1, 1) := by decide +kernel
theorem dX5_allWeights_21 : decode cX5_allWeights 21 = .ok (.iinc 2 1, 3) := by decide +kernel
theorem dX5_allWeights_24 : decode cX5_allWeights 24 = .ok (.goto (-19), 3) := by decide +kernel
theorem dX5_allWeights_27 : decode cX5_allWeights 27 = .ok (.iload_n 1, 1) := by decide +kernel
theorem dX5_allWeights_28 : decode cX5_allWeights 28 = .ok (.ireturn, 1) := by decide +kernel
theorem dX5_countOf_0 : decode cX5_countOf 0 = .ok (.iload_n 1, 1) := by decide +kernel
theorem dX5_countOf_1 : decode cX5_countOf 1 = .ok (.lookupswitch 37 #[(0, 27), (6, 32)], 27) := by decide +kernel
theorem dX5_countOf_28 : decode cX5_countOf 28 = .ok (.aload_n 0, 1) := by decide +kernel
theorem dX5_countOf_29 : decode cX5_countOf 29 = .ok (.invokevirtual 92, 3) := by decide +kernel
theorem dX5_countOf_32 : decode cX5_countOf 32 = .ok (.ireturn, 1) := by decide +kernel
theorem dX5_countOf_33 : decode cX5_countOf 33 = .ok (.aload_n 0, 1) := by decide +kernel
theorem dX5_countOf_34 : decode cX5_countOf 34 = .ok (.invokevirtual 122, 3) := by decide +kernel
theorem dX5_countOf_37 : decode cX5_countOf 37 = .ok (.ireturn, 1) := by decide +kernel
theorem dX5_countOf_38 : decode cX5_countOf 38 = .ok (.aload_n 0, 1) := by decide +kernel
theorem dX5_countOf_39 : decode cX5_countOf 39 = .ok (.getfield 7, 3) := by decide +kernel
theorem dX5_countOf_42 : decode cX5_countOf 42 = .ok (.iconst 0, 1) := by decide +kernel
theorem dX5_countOf_43 : decode cX5_countOf 43 = .ok (.iload_n 1, 1) := by decide +kernel
theorem dX5_countOf_44 : decode cX5_countOf 44 = .ok (.iadd, 1) := by decide +kernel
theorem dX5_countOf_45 : decode cX5_countOf 45 = .ok (.iconst 1, 1) := by decide +kernel
theorem dX5_countOf_46 : decode cX5_countOf 46 = .ok (.isub, 1) := by decide +kernel
theorem dX5_countOf_47 : decode cX5_countOf 47 = .ok (.iaload, 1) := by decide +kernel
theorem dX5_countOf_48 : decode cX5_countOf 48 = .ok (.ireturn, 1) := by decide +kernel
theorem dX5_count_0 : decode cX5_count 0 = .ok (.iload_n 1, 1) := by decide +kernel
theorem dX5_count_1 : decode cX5_count 1 = .ok (.iconst 0, 1) := by decide +kernel
theorem dX5_count_2 : decode cX5_count 2 = .ok (.bipush 6, 2) := by decide +kernel
theorem dX5_count_4 : decode cX5_count 4 = .ok (.invokestatic 30, 3) := by decide +kernel
theorem dX5_count_7 : decode cX5_count 7 = .ok (.ifCond .eq 11, 3) := by decide +kernel
theorem dX5_count_10 : decode cX5_count 10 = .ok (.aload_n 0, 1) := by decide +kernel
theorem dX5_count_11 : decode cX5_count 11 = .ok (.iload_n 1, 1) := by decide +kernel
theorem dX5_count_12 : decode cX5_count 12 = .ok (.invokevirtual 125, 3) := by decide +kernel
theorem dX5_count_15 : decode cX5_count 15 = .ok (.goto 5, 3) := by decide +kernel
theorem dX5_count_18 : decode cX5_count 18 = .ok (.bipush (-2), 2) := by decide +kernel
theorem dX5_count_20 : decode cX5_count 20 = .ok (.ireturn, 1) := by decide +kernel
theorem dX5_setting_0 : decode cX5_setting 0 = .ok (.iload_n 1, 1) := by decide +kernel
theorem dX5_setting_1 : decode cX5_setting 1 = .ok (.invokestatic 115, 3) := by decide +kernel
theorem dX5_setting_4 : decode cX5_setting 4 = .ok (.ifCond .eq 14, 3) := by decide +kernel
theorem dX5_setting_7 : decode cX5_setting 7 = .ok (.aload_n 0, 1) := by decide +kernel
theorem dX5_setting_8 : decode cX5_setting 8 = .ok (.getfield 7, 3) := by decide +kernel
theorem dX5_setting_11 : decode cX5_setting 11 = .ok (.iconst 5, 1) := by decide +kernel
theorem dX5_setting_12 : decode cX5_setting 12 = .ok (.iload_n 1, 1) := by decide +kernel
theorem dX5_setting_13 : decode cX5_setting 13 = .ok (.iadd, 1) := by decide +kernel
theorem dX5_setting_14 : decode cX5_setting 14 = .ok (.iaload, 1) := by decide +kernel
theorem dX5_setting_15 : decode cX5_setting 15 = .ok (.goto 4, 3) := by decide +kernel
theorem dX5_setting_18 : decode cX5_setting 18 = .ok (.iconst (-1), 1) := by decide +kernel
theorem dX5_setting_19 : decode cX5_setting 19 = .ok (.ireturn, 1) := by decide +kernel
theorem dX5_weight_0 : decode cX5_weight 0 = .ok (.aload_n 0, 1) := by decide +kernel
theorem dX5_weight_1 : decode cX5_weight 1 = .ok (.iload_n 1, 1) := by decide +kernel
theorem dX5_weight_2 : decode cX5_weight 2 = .ok (.invokevirtual 45, 3) := by decide +kernel
theorem dX5_weight_5 : decode cX5_weight 5 = .ok (.ifCond .eq 27, 3) := by decide +kernel
theorem dX5_weight_8 : decode cX5_weight 8 = .ok (.iload_n 2, 1) := by decide +kernel
theorem dX5_weight_9 : decode cX5_weight 9 = .ok (.invokestatic 80, 3) := by decide +kernel
theorem dX5_weight_12 : decode cX5_weight 12 = .ok (.ifCond .eq 20, 3) := by decide +kernel
theorem dX5_weight_15 : decode cX5_weight 15 = .ok (.iload_n 3, 1) := by decide +kernel
theorem dX5_weight_16 : decode cX5_weight 16 = .ok (.invokestatic 119, 3) := by decide +kernel
theorem dX5_weight_19 : decode cX5_weight 19 = .ok (.ifCond .eq 13, 3) := by decide +kernel
theorem dX5_weight_22 : decode cX5_weight 22 = .ok (.aload_n 0, 1) := by decide +kernel
theorem dX5_weight_23 : decode cX5_weight 23 = .ok (.iload_n 1, 1) := by decide +kernel
theorem dX5_weight_24 : decode cX5_weight 24 = .ok (.iload_n 2, 1) := by decide +kernel
theorem dX5_weight_25 : decode cX5_weight 25 = .ok (.iload_n 3, 1) := by decide +kernel
theorem dX5_weight_26 : decode cX5_weight 26 = .ok (.invokevirtual 42, 3) := by decide +kernel
theorem dX5_weight_29 : decode cX5_weight 29 = .ok (.goto 4, 3) := by decide +kernel
theorem dX5_weight_32 : decode cX5_weight 32 = .ok (.iconst (-1), 1) := by decide +kernel
theorem dX5_weight_33 : decode cX5_weight 33 = .ok (.ireturn, 1) := by decide +kernel
theorem dX5_wordsOf_0 : decode cX5_wordsOf 0 = .ok (.iconst 0, 1) := by decide +kernel
theorem dX5_wordsOf_1 : decode cX5_wordsOf 1 = .ok (.istore_n 2, 1) := by decide +kernel
theorem dX5_wordsOf_2 : decode cX5_wordsOf 2 = .ok (.iconst 0, 1) := by decide +kernel
theorem dX5_wordsOf_3 : decode cX5_wordsOf 3 = .ok (.istore_n 3, 1) := by decide +kernel
theorem dX5_wordsOf_4 : decode cX5_wordsOf 4 = .ok (.iload_n 3, 1) := by decide +kernel
theorem dX5_wordsOf_5 : decode cX5_wordsOf 5 = .ok (.bipush 6, 2) := by decide +kernel
theorem dX5_wordsOf_7 : decode cX5_wordsOf 7 = .ok (.if_icmp .ge 28, 3) := by decide +kernel
theorem dX5_wordsOf_10 : decode cX5_wordsOf 10 = .ok (.iload_n 2, 1) := by decide +kernel
theorem dX5_wordsOf_11 : decode cX5_wordsOf 11 = .ok (.aload_n 0, 1) := by decide +kernel
theorem dX5_wordsOf_12 : decode cX5_wordsOf 12 = .ok (.iload_n 1, 1) := by decide +kernel
theorem dX5_wordsOf_13 : decode cX5_wordsOf 13 = .ok (.iload_n 3, 1) := by decide +kernel
theorem dX5_wordsOf_14 : decode cX5_wordsOf 14 = .ok (.invokevirtual 58, 3) := by decide +kernel
theorem dX5_wordsOf_17 : decode cX5_wordsOf 17 = .ok (.bipush (-6), 2) := by decide +kernel
theorem dX5_wordsOf_19 : decode cX5_wordsOf 19 = .ok (.if_icmp .ne 7, 3) := by decide +kernel
theorem dX5_wordsOf_22 : decode cX5_wordsOf 22 = .ok (.iconst 0, 1) := by decide +kernel
theorem dX5_wordsOf_23 : decode cX5_wordsOf 23 = .ok (.goto 4, 3) := by decide +kernel
theorem dX5_wordsOf_26 : decode cX5_wordsOf 26 = .ok (.iconst 1, 1) := by decide +kernel
theorem dX5_wordsOf_27 : decode cX5_wordsOf 27 = .ok (.iadd, 1) := by decide +kernel
theorem dX5_wordsOf_28 : decode cX5_wordsOf 28 = .ok (.istore_n 2, 1) := by decide +kernel
theorem dX5_wordsOf_29 : decode cX5_wordsOf 29 = .ok (.iinc 3 1, 3) := by decide +kernel
theorem dX5_wordsOf_32 : decode cX5_wordsOf 32 = .ok (.goto (-28), 3) := by decide +kernel
theorem dX5_wordsOf_35 : decode cX5_wordsOf 35 = .ok (.iload_n 2, 1) := by decide +kernel
theorem dX5_wordsOf_36 : decode cX5_wordsOf 36 = .ok (.ireturn, 1) := by decide +kernel
theorem dX5_confusions_0 : decode cX5_confusions 0 = .ok (.iconst 0, 1) := by decide +kernel
theorem dX5_confusions_1 : decode cX5_confusions 1 = .ok (.istore_n 2, 1) := by decide +kernel
theorem dX5_confusions_2 : decode cX5_confusions 2 = .ok (.iconst 0, 1) := by decide +kernel
theorem dX5_confusions_3 : decode cX5_confusions 3 = .ok (.istore_n 3, 1) := by decide +kernel
theorem dX5_confusions_4 : decode cX5_confusions 4 = .ok (.iload_n 3, 1) := by decide +kernel
theorem dX5_confusions_5 : decode cX5_confusions 5 = .ok (.bipush 6, 2) := by decide +kernel
theorem dX5_confusions_7 : decode cX5_confusions 7 = .ok (.if_icmp .ge 59, 3) := by decide +kernel
theorem dX5_confusions_10 : decode cX5_confusions 10 = .ok (.iconst 0, 1) := by decide +kernel
theorem dX5_confusions_11 : decode cX5_confusions 11 = .ok (.istore 4, 2) := by decide +kernel
theorem dX5_confusions_13 : decode cX5_confusions 13 = .ok (.iload 4, 2) := by decide +kernel
theorem dX5_confusions_15 : decode cX5_confusions 15 = .ok (.iload_n 3, 1) := by decide +kernel
theorem dX5_confusions_16 : decode cX5_confusions 16 = .ok (.if_icmp .ge 44, 3) := by decide +kernel
theorem dX5_confusions_19 : decode cX5_confusions 19 = .ok (.iload_n 2, 1) := by decide +kernel
theorem dX5_confusions_20 : decode cX5_confusions 20 = .ok (.aload_n 0, 1) := by decide +kernel
theorem dX5_confusions_21 : decode cX5_confusions 21 = .ok (.iload_n 1, 1) := by decide +kernel
theorem dX5_confusions_22 : decode cX5_confusions 22 = .ok (.iload_n 3, 1) := by decide +kernel
theorem dX5_confusions_23 : decode cX5_confusions 23 = .ok (.invokevirtual 58, 3) := by decide +kernel
theorem dX5_confusions_26 : decode cX5_confusions 26 = .ok (.bipush (-6), 2) := by decide +kernel
theorem dX5_confusions_28 : decode cX5_confusions 28 = .ok (.if_icmp .eq 23, 3) := by decide +kernel
theorem dX5_confusions_31 : decode cX5_confusions 31 = .ok (.aload_n 0, 1) := by decide +kernel
theorem dX5_confusions_32 : decode cX5_confusions 32 = .ok (.iload_n 1, 1) := by decide +kernel
theorem dX5_confusions_33 : decode cX5_confusions 33 = .ok (.iload_n 3, 1) := by decide +kernel
theorem dX5_confusions_34 : decode cX5_confusions 34 = .ok (.invokevirtual 58, 3) := by decide +kernel
theorem dX5_confusions_37 : decode cX5_confusions 37 = .ok (.aload_n 0, 1) := by decide +kernel
theorem dX5_confusions_38 : decode cX5_confusions 38 = .ok (.iload_n 1, 1) := by decide +kernel
theorem dX5_confusions_39 : decode cX5_confusions 39 = .ok (.iload 4, 2) := by decide +kernel
theorem dX5_confusions_41 : decode cX5_confusions 41 = .ok (.invokevirtual 58, 3) := by decide +kernel
theorem dX5_confusions_44 : decode cX5_confusions 44 = .ok (.if_icmp .ne 7, 3) := by decide +kernel
theorem dX5_confusions_47 : decode cX5_confusions 47 = .ok (.iconst 1, 1) := by decide +kernel
theorem dX5_confusions_48 : decode cX5_confusions 48 = .ok (.goto 4, 3) := by decide +kernel
theorem dX5_confusions_51 : decode cX5_confusions 51 = .ok (.iconst 0, 1) := by decide +kernel
theorem dX5_confusions_52 : decode cX5_confusions 52 = .ok (.iadd, 1) := by decide +kernel
theorem dX5_confusions_53 : decode cX5_confusions 53 = .ok (.istore_n 2, 1) := by decide +kernel
theorem dX5_confusions_54 : decode cX5_confusions 54 = .ok (.iinc 4 1, 3) := by decide +kernel
theorem dX5_confusions_57 : decode cX5_confusions 57 = .ok (.goto (-44), 3) := by decide +kernel
theorem dX5_confusions_60 : decode cX5_confusions 60 = .ok (.iinc 3 1, 3) := by decide +kernel
theorem dX5_confusions_63 : decode cX5_confusions 63 = .ok (.goto (-59), 3) := by decide +kernel
theorem dX5_confusions_66 : decode cX5_confusions 66 = .ok (.iload_n 2, 1) := by decide +kernel
theorem dX5_confusions_67 : decode cX5_confusions 67 = .ok (.ireturn, 1) := by decide +kernel
theorem dX5_ofSpeaker_0 : decode cX5_ofSpeaker 0 = .ok (.iload_n 2, 1) := by decide +kernel
theorem dX5_ofSpeaker_1 : decode cX5_ofSpeaker 1 = .ok (.ifCond .ne 12, 3) := by decide +kernel
theorem dX5_ofSpeaker_4 : decode cX5_ofSpeaker 4 = .ok (.aload_n 0, 1) := by decide +kernel
theorem dX5_ofSpeaker_5 : decode cX5_ofSpeaker 5 = .ok (.iload_n 1, 1) := by decide +kernel
theorem dX5_ofSpeaker_6 : decode cX5_ofSpeaker 6 = .ok (.iconst 1, 1) := by decide +kernel
theorem dX5_ofSpeaker_7 : decode cX5_ofSpeaker 7 = .ok (.invokevirtual 34, 3) := by decide +kernel
theorem dX5_ofSpeaker_10 : decode cX5_ofSpeaker 10 = .ok (.goto 48, 3) := by decide +kernel
theorem dX5_ofSpeaker_13 : decode cX5_ofSpeaker 13 = .ok (.iload_n 2, 1) := by decide +kernel
theorem dX5_ofSpeaker_14 : decode cX5_ofSpeaker 14 = .ok (.iconst 1, 1) := by decide +kernel
theorem dX5_ofSpeaker_15 : decode cX5_ofSpeaker 15 = .ok (.if_icmp .ne 11, 3) := by decide +kernel
theorem dX5_ofSpeaker_18 : decode cX5_ofSpeaker 18 = .ok (.aload_n 0, 1) := by decide +kernel
theorem dX5_ofSpeaker_19 : decode cX5_ofSpeaker 19 = .ok (.iload_n 1, 1) := by decide +kernel
theorem dX5_ofSpeaker_20 : decode cX5_ofSpeaker 20 = .ok (.invokevirtual 50, 3) := by decide +kernel
theorem dX5_ofSpeaker_23 : decode cX5_ofSpeaker 23 = .ok (.goto 35, 3) := by decide +kernel
theorem dX5_ofSpeaker_26 : decode cX5_ofSpeaker 26 = .ok (.iload_n 2, 1) := by decide +kernel
theorem dX5_ofSpeaker_27 : decode cX5_ofSpeaker 27 = .ok (.iconst 2, 1) := by decide +kernel
theorem dX5_ofSpeaker_28 : decode cX5_ofSpeaker 28 = .ok (.if_icmp .ne 11, 3) := by decide +kernel
theorem dX5_ofSpeaker_31 : decode cX5_ofSpeaker 31 = .ok (.aload_n 0, 1) := by decide +kernel
theorem dX5_ofSpeaker_32 : decode cX5_ofSpeaker 32 = .ok (.iload_n 1, 1) := by decide +kernel
theorem dX5_ofSpeaker_33 : decode cX5_ofSpeaker 33 = .ok (.invokevirtual 128, 3) := by decide +kernel
theorem dX5_ofSpeaker_36 : decode cX5_ofSpeaker 36 = .ok (.goto 22, 3) := by decide +kernel
theorem dX5_ofSpeaker_39 : decode cX5_ofSpeaker 39 = .ok (.iload_n 2, 1) := by decide +kernel
theorem dX5_ofSpeaker_40 : decode cX5_ofSpeaker 40 = .ok (.iconst 3, 1) := by decide +kernel
theorem dX5_ofSpeaker_41 : decode cX5_ofSpeaker 41 = .ok (.if_icmp .ne 11, 3) := by decide +kernel
theorem dX5_ofSpeaker_44 : decode cX5_ofSpeaker 44 = .ok (.aload_n 0, 1) := by decide +kernel
theorem dX5_ofSpeaker_45 : decode cX5_ofSpeaker 45 = .ok (.iload_n 1, 1) := by decide +kernel
theorem dX5_ofSpeaker_46 : decode cX5_ofSpeaker 46 = .ok (.invokevirtual 131, 3) := by decide +kernel
theorem dX5_ofSpeaker_49 : decode cX5_ofSpeaker 49 = .ok (.goto 9, 3) := by decide +kernel
theorem dX5_ofSpeaker_52 : decode cX5_ofSpeaker 52 = .ok (.aload_n 0, 1) := by decide +kernel
theorem dX5_ofSpeaker_53 : decode cX5_ofSpeaker 53 = .ok (.iload_n 1, 1) := by decide +kernel
theorem dX5_ofSpeaker_54 : decode cX5_ofSpeaker 54 = .ok (.iconst 2, 1) := by decide +kernel
theorem dX5_ofSpeaker_55 : decode cX5_ofSpeaker 55 = .ok (.invokevirtual 34, 3) := by decide +kernel
theorem dX5_ofSpeaker_58 : decode cX5_ofSpeaker 58 = .ok (.ireturn, 1) := by decide +kernel
theorem dX5_speaker_0 : decode cX5_speaker 0 = .ok (.aload_n 0, 1) := by decide +kernel
theorem dX5_speaker_1 : decode cX5_speaker 1 = .ok (.iload_n 1, 1) := by decide +kernel
theorem dX5_speaker_2 : decode cX5_speaker 2 = .ok (.invokevirtual 45, 3) := by decide +kernel
theorem dX5_speaker_5 : decode cX5_speaker 5 = .ok (.ifCond .ne 5, 3) := by decide +kernel
theorem dX5_speaker_8 : decode cX5_speaker 8 = .ok (.iconst (-1), 1) := by decide +kernel
theorem dX5_speaker_9 : decode cX5_speaker 9 = .ok (.ireturn, 1) := by decide +kernel
theorem dX5_speaker_10 : decode cX5_speaker 10 = .ok (.iload_n 2, 1) := by decide +kernel
theorem dX5_speaker_11 : decode cX5_speaker 11 = .ok (.iconst 0, 1) := by decide +kernel
theorem dX5_speaker_12 : decode cX5_speaker 12 = .ok (.iconst 4, 1) := by decide +kernel
theorem dX5_speaker_13 : decode cX5_speaker 13 = .ok (.invokestatic 30, 3) := by decide +kernel
theorem dX5_speaker_16 : decode cX5_speaker 16 = .ok (.ifCond .eq 12, 3) := by decide +kernel
theorem dX5_speaker_19 : decode cX5_speaker 19 = .ok (.aload_n 0, 1) := by decide +kernel
theorem dX5_speaker_20 : decode cX5_speaker 20 = .ok (.iload_n 1, 1) := by decide +kernel
theorem dX5_speaker_21 : decode cX5_speaker 21 = .ok (.iload_n 2, 1) := by decide +kernel
theorem dX5_speaker_22 : decode cX5_speaker 22 = .ok (.invokevirtual 134, 3) := by decide +kernel
theorem dX5_speaker_25 : decode cX5_speaker 25 = .ok (.goto 5, 3) := by decide +kernel
theorem dX5_speaker_28 : decode cX5_speaker 28 = .ok (.bipush (-2), 2) := by decide +kernel
theorem dX5_speaker_30 : decode cX5_speaker 30 = .ok (.ireturn, 1) := by decide +kernel
theorem dX5_wordOf_0 : decode cX5_wordOf 0 = .ok (.aload_n 0, 1) := by decide +kernel
theorem dX5_wordOf_1 : decode cX5_wordOf 1 = .ok (.iload_n 1, 1) := by decide +kernel
theorem dX5_wordOf_2 : decode cX5_wordOf 2 = .ok (.invokevirtual 45, 3) := by decide +kernel
theorem dX5_wordOf_5 : decode cX5_wordOf 5 = .ok (.ifCond .eq 19, 3) := by decide +kernel
theorem dX5_wordOf_8 : decode cX5_wordOf 8 = .ok (.iload_n 2, 1) := by decide +kernel
theorem dX5_wordOf_9 : decode cX5_wordOf 9 = .ok (.invokestatic 80, 3) := by decide +kernel
theorem dX5_wordOf_12 : decode cX5_wordOf 12 = .ok (.ifCond .eq 12, 3) := by decide +kernel
theorem dX5_wordOf_15 : decode cX5_wordOf 15 = .ok (.aload_n 0, 1) := by decide +kernel
theorem dX5_wordOf_16 : decode cX5_wordOf 16 = .ok (.iload_n 1, 1) := by decide +kernel
theorem dX5_wordOf_17 : decode cX5_wordOf 17 = .ok (.iload_n 2, 1) := by decide +kernel
theorem dX5_wordOf_18 : decode cX5_wordOf 18 = .ok (.invokevirtual 58, 3) := by decide +kernel
theorem dX5_wordOf_21 : decode cX5_wordOf 21 = .ok (.goto 4, 3) := by decide +kernel
theorem dX5_wordOf_24 : decode cX5_wordOf 24 = .ok (.iconst (-1), 1) := by decide +kernel
theorem dX5_wordOf_25 : decode cX5_wordOf 25 = .ok (.ireturn, 1) := by decide +kernel
theorem dX5_hears_0 : decode cX5_hears 0 = .ok (.aload_n 0, 1) := by decide +kernel
theorem dX5_hears_1 : decode cX5_hears 1 = .ok (.iload_n 1, 1) := by decide +kernel
theorem dX5_hears_2 : decode cX5_hears 2 = .ok (.invokevirtual 45, 3) := by decide +kernel
theorem dX5_hears_5 : decode cX5_hears 5 = .ok (.ifCond .eq 19, 3) := by decide +kernel
theorem dX5_hears_8 : decode cX5_hears 8 = .ok (.iload_n 2, 1) := by decide +kernel
theorem dX5_hears_9 : decode cX5_hears 9 = .ok (.invokestatic 119, 3) := by decide +kernel
theorem dX5_hears_12 : decode cX5_hears 12 = .ok (.ifCond .eq 12, 3) := by decide +kernel
theorem dX5_hears_15 : decode cX5_hears 15 = .ok (.aload_n 0, 1) := by decide +kernel
theorem dX5_hears_16 : decode cX5_hears 16 = .ok (.iload_n 1, 1) := by decide +kernel
theorem dX5_hears_17 : decode cX5_hears 17 = .ok (.iload_n 2, 1) := by decide +kernel
theorem dX5_hears_18 : decode cX5_hears 18 = .ok (.invokevirtual 67, 3) := by decide +kernel
theorem dX5_hears_21 : decode cX5_hears 21 = .ok (.goto 4, 3) := by decide +kernel
theorem dX5_hears_24 : decode cX5_hears 24 = .ok (.iconst (-1), 1) := by decide +kernel
theorem dX5_hears_25 : decode cX5_hears 25 = .ok (.ireturn, 1) := by decide +kernel
theorem dX5_gesture_0 : decode cX5_gesture 0 = .ok (.iload_n 1, 1) := by decide +kernel
theorem dX5_gesture_1 : decode cX5_gesture 1 = .ok (.invokestatic 119, 3) := by decide +kernel
theorem dX5_gesture_4 : decode cX5_gesture 4 = .ok (.ifCond .ne 5, 3) := by decide +kernel
theorem dX5_gesture_7 : decode cX5_gesture 7 = .ok (.iconst (-1), 1) := by decide +kernel
theorem dX5_gesture_8 : decode cX5_gesture 8 = .ok (.ireturn, 1) := by decide +kernel
theorem dX5_gesture_9 : decode cX5_gesture 9 = .ok (.iload_n 1, 1) := by decide +kernel
theorem dX5_gesture_10 : decode cX5_gesture 10 = .ok (.iconst 2, 1) := by decide +kernel
theorem dX5_gesture_11 : decode cX5_gesture 11 = .ok (.if_icmp .ge 7, 3) := by decide +kernel
theorem dX5_gesture_14 : decode cX5_gesture 14 = .ok (.iconst 1, 1) := by decide +kernel
theorem dX5_gesture_15 : decode cX5_gesture 15 = .ok (.goto 14, 3) := by decide +kernel
theorem dX5_gesture_18 : decode cX5_gesture 18 = .ok (.iload_n 1, 1) := by decide +kernel
theorem dX5_gesture_19 : decode cX5_gesture 19 = .ok (.bipush 6, 2) := by decide +kernel
theorem dX5_gesture_21 : decode cX5_gesture 21 = .ok (.if_icmp .ge 7, 3) := by decide +kernel
theorem dX5_gesture_24 : decode cX5_gesture 24 = .ok (.iconst 2, 1) := by decide +kernel
theorem dX5_gesture_25 : decode cX5_gesture 25 = .ok (.goto 4, 3) := by decide +kernel
theorem dX5_gesture_28 : decode cX5_gesture 28 = .ok (.iconst 3, 1) := by decide +kernel
theorem dX5_gesture_29 : decode cX5_gesture 29 = .ok (.istore_n 3, 1) := by decide +kernel
theorem dX5_gesture_30 : decode cX5_gesture 30 = .ok (.iload_n 1, 1) := by decide +kernel
theorem dX5_gesture_31 : decode cX5_gesture 31 = .ok (.iconst 2, 1) := by decide +kernel
theorem dX5_gesture_32 : decode cX5_gesture 32 = .ok (.if_icmp .ge 7, 3) := by decide +kernel
theorem dX5_gesture_35 : decode cX5_gesture 35 = .ok (.iload_n 1, 1) := by decide +kernel
theorem dX5_gesture_36 : decode cX5_gesture 36 = .ok (.goto 19, 3) := by decide +kernel
theorem dX5_gesture_39 : decode cX5_gesture 39 = .ok (.iload_n 1, 1) := by decide +kernel
theorem dX5_gesture_40 : decode cX5_gesture 40 = .ok (.bipush 6, 2) := by decide +kernel
theorem dX5_gesture_42 : decode cX5_gesture 42 = .ok (.if_icmp .ge 9, 3) := by decide +kernel
theorem dX5_gesture_45 : decode cX5_gesture 45 = .ok (.iload_n 1, 1) := by decide +kernel
theorem dX5_gesture_46 : decode cX5_gesture 46 = .ok (.iconst 2, 1) := by decide +kernel
theorem dX5_gesture_47 : decode cX5_gesture 47 = .ok (.isub, 1) := by decide +kernel
theorem dX5_gesture_48 : decode cX5_gesture 48 = .ok (.goto 7, 3) := by decide +kernel
theorem dX5_gesture_51 : decode cX5_gesture 51 = .ok (.iload_n 1, 1) := by decide +kernel
theorem dX5_gesture_52 : decode cX5_gesture 52 = .ok (.bipush 6, 2) := by decide +kernel
theorem dX5_gesture_54 : decode cX5_gesture 54 = .ok (.isub, 1) := by decide +kernel
theorem dX5_gesture_55 : decode cX5_gesture 55 = .ok (.istore 4, 2) := by decide +kernel
theorem dX5_gesture_57 : decode cX5_gesture 57 = .ok (.iload_n 2, 1) := by decide +kernel
theorem dX5_gesture_58 : decode cX5_gesture 58 = .ok (.iconst 0, 1) := by decide +kernel
theorem dX5_gesture_59 : decode cX5_gesture 59 = .ok (.iload_n 3, 1) := by decide +kernel
theorem dX5_gesture_60 : decode cX5_gesture 60 = .ok (.iconst 1, 1) := by decide +kernel
theorem dX5_gesture_61 : decode cX5_gesture 61 = .ok (.isub, 1) := by decide +kernel
theorem dX5_gesture_62 : decode cX5_gesture 62 = .ok (.invokestatic 30, 3) := by decide +kernel
theorem dX5_gesture_65 : decode cX5_gesture 65 = .ok (.ifCond .ne 6, 3) := by decide +kernel
theorem dX5_gesture_68 : decode cX5_gesture 68 = .ok (.bipush (-6), 2) := by decide +kernel
theorem dX5_gesture_70 : decode cX5_gesture 70 = .ok (.ireturn, 1) := by decide +kernel
theorem dX5_gesture_71 : decode cX5_gesture 71 = .ok (.iload 4, 2) := by decide +kernel
theorem dX5_gesture_73 : decode cX5_gesture 73 = .ok (.iload_n 3, 1) := by decide +kernel
theorem dX5_gesture_74 : decode cX5_gesture 74 = .ok (.iconst 1, 1) := by decide +kernel
theorem dX5_gesture_75 : decode cX5_gesture 75 = .ok (.isub, 1) := by decide +kernel
theorem dX5_gesture_76 : decode cX5_gesture 76 = .ok (.iload_n 2, 1) := by decide +kernel
theorem dX5_gesture_77 : decode cX5_gesture 77 = .ok (.isub, 1) := by decide +kernel
theorem dX5_gesture_78 : decode cX5_gesture 78 = .ok (.ishr, 1) := by decide +kernel
theorem dX5_gesture_79 : decode cX5_gesture 79 = .ok (.iconst 1, 1) := by decide +kernel
theorem dX5_gesture_80 : decode cX5_gesture 80 = .ok (.iand, 1) := by decide +kernel
theorem dX5_gesture_81 : decode cX5_gesture 81 = .ok (.ifCond .ne 8, 3) := by decide +kernel
theorem dX5_gesture_84 : decode cX5_gesture 84 = .ok (.bipush 119, 2) := by decide +kernel
theorem dX5_gesture_86 : decode cX5_gesture 86 = .ok (.goto 5, 3) := by decide +kernel
theorem dX5_gesture_89 : decode cX5_gesture 89 = .ok (.bipush 110, 2) := by decide +kernel
theorem dX5_gesture_91 : decode cX5_gesture 91 = .ok (.ireturn, 1) := by decide +kernel
theorem dX5_agreements_0 : decode cX5_agreements 0 = .ok (.iconst 0, 1) := by decide +kernel
theorem dX5_agreements_1 : decode cX5_agreements 1 = .ok (.istore_n 3, 1) := by decide +kernel
theorem dX5_agreements_2 : decode cX5_agreements 2 = .ok (.iconst 0, 1) := by decide +kernel
theorem dX5_agreements_3 : decode cX5_agreements 3 = .ok (.istore 4, 2) := by decide +kernel
theorem dX5_agreements_5 : decode cX5_agreements 5 = .ok (.iload 4, 2) := by decide +kernel
theorem dX5_agreements_7 : decode cX5_agreements 7 = .ok (.bipush 6, 2) := by decide +kernel
theorem dX5_agreements_9 : decode cX5_agreements 9 = .ok (.if_icmp .ge 46, 3) := by decide +kernel
theorem dX5_agreements_12 : decode cX5_agreements 12 = .ok (.iload_n 3, 1) := by decide +kernel
theorem dX5_agreements_13 : decode cX5_agreements 13 = .ok (.aload_n 0, 1) := by decide +kernel
theorem dX5_agreements_14 : decode cX5_agreements 14 = .ok (.iload_n 1, 1) := by decide +kernel
theorem dX5_agreements_15 : decode cX5_agreements 15 = .ok (.iload 4, 2) := by decide +kernel
theorem dX5_agreements_17 : decode cX5_agreements 17 = .ok (.invokevirtual 58, 3) := by decide +kernel
theorem dX5_agreements_20 : decode cX5_agreements 20 = .ok (.bipush (-6), 2) := by decide +kernel
theorem dX5_agreements_22 : decode cX5_agreements 22 = .ok (.if_icmp .eq 24, 3) := by decide +kernel
theorem dX5_agreements_25 : decode cX5_agreements 25 = .ok (.aload_n 0, 1) := by decide +kernel
theorem dX5_agreements_26 : decode cX5_agreements 26 = .ok (.iload_n 1, 1) := by decide +kernel
theorem dX5_agreements_27 : decode cX5_agreements 27 = .ok (.iload 4, 2) := by decide +kernel
theorem dX5_agreements_29 : decode cX5_agreements 29 = .ok (.invokevirtual 58, 3) := by decide +kernel
theorem dX5_agreements_32 : decode cX5_agreements 32 = .ok (.aload_n 0, 1) := by decide +kernel
theorem dX5_agreements_33 : decode cX5_agreements 33 = .ok (.iload_n 2, 1) := by decide +kernel
theorem dX5_agreements_34 : decode cX5_agreements 34 = .ok (.iload 4, 2) := by decide +kernel
theorem dX5_agreements_36 : decode cX5_agreements 36 = .ok (.invokevirtual 58, 3) := by decide +kernel
theorem dX5_agreements_39 : decode cX5_agreements 39 = .ok (.if_icmp .ne 7, 3) := by decide +kernel
theorem dX5_agreements_42 : decode cX5_agreements 42 = .ok (.iconst 1, 1) := by decide +kernel
theorem dX5_agreements_43 : decode cX5_agreements 43 = .ok (.goto 4, 3) := by decide +kernel
theorem dX5_agreements_46 : decode cX5_agreements 46 = .ok (.iconst 0, 1) := by decide +kernel
theorem dX5_agreements_47 : decode cX5_agreements 47 = .ok (.iadd, 1) := by decide +kernel
theorem dX5_agreements_48 : decode cX5_agreements 48 = .ok (.istore_n 3, 1) := by decide +kernel
theorem dX5_agreements_49 : decode cX5_agreements 49 = .ok (.iinc 4 1, 3) := by decide +kernel
theorem dX5_agreements_52 : decode cX5_agreements 52 = .ok (.goto (-47), 3) := by decide +kernel
theorem dX5_agreements_55 : decode cX5_agreements 55 = .ok (.iload_n 3, 1) := by decide +kernel
theorem dX5_agreements_56 : decode cX5_agreements 56 = .ok (.ireturn, 1) := by decide +kernel
theorem dX5_agreement_0 : decode cX5_agreement 0 = .ok (.aload_n 0, 1) := by decide +kernel
theorem dX5_agreement_1 : decode cX5_agreement 1 = .ok (.iload_n 1, 1) := by decide +kernel
theorem dX5_agreement_2 : decode cX5_agreement 2 = .ok (.invokevirtual 45, 3) := by decide +kernel
theorem dX5_agreement_5 : decode cX5_agreement 5 = .ok (.ifCond .eq 11, 3) := by decide +kernel
theorem dX5_agreement_8 : decode cX5_agreement 8 = .ok (.aload_n 0, 1) := by decide +kernel
theorem dX5_agreement_9 : decode cX5_agreement 9 = .ok (.iload_n 2, 1) := by decide +kernel
theorem dX5_agreement_10 : decode cX5_agreement 10 = .ok (.invokevirtual 45, 3) := by decide +kernel
theorem dX5_agreement_13 : decode cX5_agreement 13 = .ok (.ifCond .ne 5, 3) := by decide +kernel
theorem dX5_agreement_16 : decode cX5_agreement 16 = .ok (.iconst (-1), 1) := by decide +kernel
theorem dX5_agreement_17 : decode cX5_agreement 17 = .ok (.ireturn, 1) := by decide +kernel
theorem dX5_agreement_18 : decode cX5_agreement 18 = .ok (.iload_n 3, 1) := by decide +kernel
theorem dX5_agreement_19 : decode cX5_agreement 19 = .ok (.iconst 0, 1) := by decide +kernel
theorem dX5_agreement_20 : decode cX5_agreement 20 = .ok (.iconst 1, 1) := by decide +kernel
theorem dX5_agreement_21 : decode cX5_agreement 21 = .ok (.invokestatic 30, 3) := by decide +kernel
theorem dX5_agreement_24 : decode cX5_agreement 24 = .ok (.ifCond .eq 12, 3) := by decide +kernel
theorem dX5_agreement_27 : decode cX5_agreement 27 = .ok (.aload_n 0, 1) := by decide +kernel
theorem dX5_agreement_28 : decode cX5_agreement 28 = .ok (.iload_n 1, 1) := by decide +kernel
theorem dX5_agreement_29 : decode cX5_agreement 29 = .ok (.iload_n 2, 1) := by decide +kernel
theorem dX5_agreement_30 : decode cX5_agreement 30 = .ok (.invokevirtual 137, 3) := by decide +kernel
theorem dX5_agreement_33 : decode cX5_agreement 33 = .ok (.goto 5, 3) := by decide +kernel
theorem dX5_agreement_36 : decode cX5_agreement 36 = .ok (.bipush (-2), 2) := by decide +kernel
theorem dX5_agreement_38 : decode cX5_agreement 38 = .ok (.ireturn, 1) := by decide +kernel
theorem dX5_understood_0 : decode cX5_understood 0 = .ok (.iconst 0, 1) := by decide +kernel
theorem dX5_understood_1 : decode cX5_understood 1 = .ok (.istore_n 3, 1) := by decide +kernel
theorem dX5_understood_2 : decode cX5_understood 2 = .ok (.iconst 0, 1) := by decide +kernel
theorem dX5_understood_3 : decode cX5_understood 3 = .ok (.istore 4, 2) := by decide +kernel
theorem dX5_understood_5 : decode cX5_understood 5 = .ok (.iload 4, 2) := by decide +kernel
theorem dX5_understood_7 : decode cX5_understood 7 = .ok (.bipush 6, 2) := by decide +kernel
theorem dX5_understood_9 : decode cX5_understood 9 = .ok (.if_icmp .ge 46, 3) := by decide +kernel
theorem dX5_understood_12 : decode cX5_understood 12 = .ok (.iload_n 3, 1) := by decide +kernel
theorem dX5_understood_13 : decode cX5_understood 13 = .ok (.aload_n 0, 1) := by decide +kernel
theorem dX5_understood_14 : decode cX5_understood 14 = .ok (.iload_n 1, 1) := by decide +kernel
theorem dX5_understood_15 : decode cX5_understood 15 = .ok (.iload 4, 2) := by decide +kernel
theorem dX5_understood_17 : decode cX5_understood 17 = .ok (.invokevirtual 58, 3) := by decide +kernel
theorem dX5_understood_20 : decode cX5_understood 20 = .ok (.bipush (-6), 2) := by decide +kernel
theorem dX5_understood_22 : decode cX5_understood 22 = .ok (.if_icmp .eq 24, 3) := by decide +kernel
theorem dX5_understood_25 : decode cX5_understood 25 = .ok (.aload_n 0, 1) := by decide +kernel
theorem dX5_understood_26 : decode cX5_understood 26 = .ok (.iload_n 2, 1) := by decide +kernel
theorem dX5_understood_27 : decode cX5_understood 27 = .ok (.aload_n 0, 1) := by decide +kernel
theorem dX5_understood_28 : decode cX5_understood 28 = .ok (.iload_n 1, 1) := by decide +kernel
theorem dX5_understood_29 : decode cX5_understood 29 = .ok (.iload 4, 2) := by decide +kernel
theorem dX5_understood_31 : decode cX5_understood 31 = .ok (.invokevirtual 58, 3) := by decide +kernel
theorem dX5_understood_34 : decode cX5_understood 34 = .ok (.invokevirtual 67, 3) := by decide +kernel
theorem dX5_understood_37 : decode cX5_understood 37 = .ok (.iload 4, 2) := by decide +kernel
theorem dX5_understood_39 : decode cX5_understood 39 = .ok (.if_icmp .ne 7, 3) := by decide +kernel
theorem dX5_understood_42 : decode cX5_understood 42 = .ok (.iconst 1, 1) := by decide +kernel
theorem dX5_understood_43 : decode cX5_understood 43 = .ok (.goto 4, 3) := by decide +kernel
theorem dX5_understood_46 : decode cX5_understood 46 = .ok (.iconst 0, 1) := by decide +kernel
theorem dX5_understood_47 : decode cX5_understood 47 = .ok (.iadd, 1) := by decide +kernel
theorem dX5_understood_48 : decode cX5_understood 48 = .ok (.istore_n 3, 1) := by decide +kernel
theorem dX5_understood_49 : decode cX5_understood 49 = .ok (.iinc 4 1, 3) := by decide +kernel
theorem dX5_understood_52 : decode cX5_understood 52 = .ok (.goto (-47), 3) := by decide +kernel
theorem dX5_understood_55 : decode cX5_understood 55 = .ok (.iload_n 3, 1) := by decide +kernel
theorem dX5_understood_56 : decode cX5_understood 56 = .ok (.ireturn, 1) := by decide +kernel
theorem dX5_understanding_0 : decode cX5_understanding 0 = .ok (.aload_n 0, 1) := by decide +kernel
theorem dX5_understanding_1 : decode cX5_understanding 1 = .ok (.iload_n 1, 1) := by decide +kernel
theorem dX5_understanding_2 : decode cX5_understanding 2 = .ok (.invokevirtual 45, 3) := by decide +kernel
theorem dX5_understanding_5 : decode cX5_understanding 5 = .ok (.ifCond .eq 20, 3) := by decide +kernel
theorem dX5_understanding_8 : decode cX5_understanding 8 = .ok (.aload_n 0, 1) := by decide +kernel
theorem dX5_understanding_9 : decode cX5_understanding 9 = .ok (.iload_n 2, 1) := by decide +kernel
theorem dX5_understanding_10 : decode cX5_understanding 10 = .ok (.invokevirtual 45, 3) := by decide +kernel
theorem dX5_understanding_13 : decode cX5_understanding 13 = .ok (.ifCond .eq 12, 3) := by decide +kernel
theorem dX5_understanding_16 : decode cX5_understanding 16 = .ok (.aload_n 0, 1) := by decide +kernel
theorem dX5_understanding_17 : decode cX5_understanding 17 = .ok (.iload_n 1, 1) := by decide +kernel
theorem dX5_understanding_18 : decode cX5_understanding 18 = .ok (.iload_n 2, 1) := by decide +kernel
theorem dX5_understanding_19 : decode cX5_understanding 19 = .ok (.invokevirtual 140, 3) := by decide +kernel
theorem dX5_understanding_22 : decode cX5_understanding 22 = .ok (.goto 4, 3) := by decide +kernel
theorem dX5_understanding_25 : decode cX5_understanding 25 = .ok (.iconst (-1), 1) := by decide +kernel
theorem dX5_understanding_26 : decode cX5_understanding 26 = .ok (.ireturn, 1) := by decide +kernel
theorem dX5_commonOf_0 : decode cX5_commonOf 0 = .ok (.bipush (-6), 2) := by decide +kernel
theorem dX5_commonOf_2 : decode cX5_commonOf 2 = .ok (.istore_n 2, 1) := by decide +kernel
theorem dX5_commonOf_3 : decode cX5_commonOf 3 = .ok (.iconst 0, 1) := by decide +kernel
theorem dX5_commonOf_4 : decode cX5_commonOf 4 = .ok (.istore_n 3, 1) := by decide +kernel
theorem dX5_commonOf_5 : decode cX5_commonOf 5 = .ok (.iconst 0, 1) := by decide +kernel
theorem dX5_commonOf_6 : decode cX5_commonOf 6 = .ok (.istore 4, 2) := by decide +kernel
theorem dX5_commonOf_8 : decode cX5_commonOf 8 = .ok (.iload 4, 2) := by decide +kernel
theorem dX5_commonOf_10 : decode cX5_commonOf 10 = .ok (.bipush 14, 2) := by decide +kernel
theorem dX5_commonOf_12 : decode cX5_commonOf 12 = .ok (.if_icmp .ge 85, 3) := by decide +kernel
theorem dX5_commonOf_15 : decode cX5_commonOf 15 = .ok (.iconst 0, 1) := by decide +kernel
theorem dX5_commonOf_16 : decode cX5_commonOf 16 = .ok (.istore 5, 2) := by decide +kernel
theorem dX5_commonOf_18 : decode cX5_commonOf 18 = .ok (.iconst 0, 1) := by decide +kernel
theorem dX5_commonOf_19 : decode cX5_commonOf 19 = .ok (.istore 6, 2) := by decide +kernel
theorem dX5_commonOf_21 : decode cX5_commonOf 21 = .ok (.iload 6, 2) := by decide +kernel
theorem dX5_commonOf_23 : decode cX5_commonOf 23 = .ok (.bipush 8, 2) := by decide +kernel
theorem dX5_commonOf_25 : decode cX5_commonOf 25 = .ok (.if_icmp .ge 40, 3) := by decide +kernel
theorem dX5_commonOf_28 : decode cX5_commonOf 28 = .ok (.iload 5, 2) := by decide +kernel
theorem dX5_commonOf_30 : decode cX5_commonOf 30 = .ok (.aload_n 0, 1) := by decide +kernel
theorem dX5_commonOf_31 : decode cX5_commonOf 31 = .ok (.iload 6, 2) := by decide +kernel
theorem dX5_commonOf_33 : decode cX5_commonOf 33 = .ok (.invokevirtual 45, 3) := by decide +kernel
theorem dX5_commonOf_36 : decode cX5_commonOf 36 = .ok (.ifCond .eq 19, 3) := by decide +kernel
theorem dX5_commonOf_39 : decode cX5_commonOf 39 = .ok (.aload_n 0, 1) := by decide +kernel
theorem dX5_commonOf_40 : decode cX5_commonOf 40 = .ok (.iload 6, 2) := by decide +kernel
theorem dX5_commonOf_42 : decode cX5_commonOf 42 = .ok (.iload_n 1, 1) := by decide +kernel
theorem dX5_commonOf_43 : decode cX5_commonOf 43 = .ok (.invokevirtual 58, 3) := by decide +kernel
theorem dX5_commonOf_46 : decode cX5_commonOf 46 = .ok (.iload 4, 2) := by decide +kernel
theorem dX5_commonOf_48 : decode cX5_commonOf 48 = .ok (.if_icmp .ne 7, 3) := by decide +kernel
theorem dX5_commonOf_51 : decode cX5_commonOf 51 = .ok (.iconst 1, 1) := by decide +kernel
theorem dX5_commonOf_52 : decode cX5_commonOf 52 = .ok (.goto 4, 3) := by decide +kernel
theorem dX5_commonOf_55 : decode cX5_commonOf 55 = .ok (.iconst 0, 1) := by decide +kernel
theorem dX5_commonOf_56 : decode cX5_commonOf 56 = .ok (.iadd, 1) := by decide +kernel
theorem dX5_commonOf_57 : decode cX5_commonOf 57 = .ok (.istore 5, 2) := by decide +kernel
theorem dX5_commonOf_59 : decode cX5_commonOf 59 = .ok (.iinc 6 1, 3) := by decide +kernel
theorem dX5_commonOf_62 : decode cX5_commonOf 62 = .ok (.goto (-41), 3) := by decide +kernel
theorem dX5_commonOf_65 : decode cX5_commonOf 65 = .ok (.iload 5, 2) := by decide +kernel
theorem dX5_commonOf_67 : decode cX5_commonOf 67 = .ok (.iload_n 3, 1) := by decide +kernel
theorem dX5_commonOf_68 : decode cX5_commonOf 68 = .ok (.if_icmp .le 8, 3) := by decide +kernel
theorem dX5_commonOf_71 : decode cX5_commonOf 71 = .ok (.iload 4, 2) := by decide +kernel
theorem dX5_commonOf_73 : decode cX5_commonOf 73 = .ok (.goto 4, 3) := by decide +kernel
theorem dX5_commonOf_76 : decode cX5_commonOf 76 = .ok (.iload_n 2, 1) := by decide +kernel
theorem dX5_commonOf_77 : decode cX5_commonOf 77 = .ok (.istore_n 2, 1) := by decide +kernel
theorem dX5_commonOf_78 : decode cX5_commonOf 78 = .ok (.iload 5, 2) := by decide +kernel
theorem dX5_commonOf_80 : decode cX5_commonOf 80 = .ok (.iload_n 3, 1) := by decide +kernel
theorem dX5_commonOf_81 : decode cX5_commonOf 81 = .ok (.if_icmp .le 8, 3) := by decide +kernel
theorem dX5_commonOf_84 : decode cX5_commonOf 84 = .ok (.iload 5, 2) := by decide +kernel
theorem dX5_commonOf_86 : decode cX5_commonOf 86 = .ok (.goto 4, 3) := by decide +kernel
theorem dX5_commonOf_89 : decode cX5_commonOf 89 = .ok (.iload_n 3, 1) := by decide +kernel
theorem dX5_commonOf_90 : decode cX5_commonOf 90 = .ok (.istore_n 3, 1) := by decide +kernel
theorem dX5_commonOf_91 : decode cX5_commonOf 91 = .ok (.iinc 4 1, 3) := by decide +kernel
theorem dX5_commonOf_94 : decode cX5_commonOf 94 = .ok (.goto (-86), 3) := by decide +kernel
theorem dX5_commonOf_97 : decode cX5_commonOf 97 = .ok (.iload_n 2, 1) := by decide +kernel
theorem dX5_commonOf_98 : decode cX5_commonOf 98 = .ok (.ireturn, 1) := by decide +kernel
theorem dX5_common_0 : decode cX5_common 0 = .ok (.iload_n 1, 1) := by decide +kernel
theorem dX5_common_1 : decode cX5_common 1 = .ok (.invokestatic 80, 3) := by decide +kernel
theorem dX5_common_4 : decode cX5_common 4 = .ok (.ifCond .eq 11, 3) := by decide +kernel
theorem dX5_common_7 : decode cX5_common 7 = .ok (.aload_n 0, 1) := by decide +kernel
theorem dX5_common_8 : decode cX5_common 8 = .ok (.iload_n 1, 1) := by decide +kernel
theorem dX5_common_9 : decode cX5_common 9 = .ok (.invokevirtual 143, 3) := by decide +kernel
theorem dX5_common_12 : decode cX5_common 12 = .ok (.goto 4, 3) := by decide +kernel
theorem dX5_common_15 : decode cX5_common 15 = .ok (.iconst (-1), 1) := by decide +kernel
theorem dX5_common_16 : decode cX5_common 16 = .ok (.ireturn, 1) := by decide +kernel
theorem dX5_ifMet_0 : decode cX5_ifMet 0 = .ok (.aload_n 0, 1) := by decide +kernel
theorem dX5_ifMet_1 : decode cX5_ifMet 1 = .ok (.iload_n 1, 1) := by decide +kernel
theorem dX5_ifMet_2 : decode cX5_ifMet 2 = .ok (.iload_n 2, 1) := by decide +kernel
theorem dX5_ifMet_3 : decode cX5_ifMet 3 = .ok (.iload_n 3, 1) := by decide +kernel
theorem dX5_ifMet_4 : decode cX5_ifMet 4 = .ok (.invokevirtual 83, 3) := by decide +kernel
theorem dX5_ifMet_7 : decode cX5_ifMet 7 = .ok (.istore 5, 2) := by decide +kernel
theorem dX5_ifMet_9 : decode cX5_ifMet 9 = .ok (.iload 5, 2) := by decide +kernel
theorem dX5_ifMet_11 : decode cX5_ifMet 11 = .ok (.iconst (-1), 1) := by decide +kernel
theorem dX5_ifMet_12 : decode cX5_ifMet 12 = .ok (.if_icmp .ne 5, 3) := by decide +kernel
theorem dX5_ifMet_15 : decode cX5_ifMet 15 = .ok (.iconst (-1), 1) := by decide +kernel
theorem dX5_ifMet_16 : decode cX5_ifMet 16 = .ok (.ireturn, 1) := by decide +kernel
theorem dX5_ifMet_17 : decode cX5_ifMet 17 = .ok (.iload 4, 2) := by decide +kernel
theorem dX5_ifMet_19 : decode cX5_ifMet 19 = .ok (.iconst 0, 1) := by decide +kernel
theorem dX5_ifMet_20 : decode cX5_ifMet 20 = .ok (.iconst 3, 1) := by decide +kernel
theorem dX5_ifMet_21 : decode cX5_ifMet 21 = .ok (.invokestatic 30, 3) := by decide +kernel
theorem dX5_ifMet_24 : decode cX5_ifMet 24 = .ok (.ifCond .ne 6, 3) := by decide +kernel
theorem dX5_ifMet_27 : decode cX5_ifMet 27 = .ok (.bipush (-2), 2) := by decide +kernel
theorem dX5_ifMet_29 : decode cX5_ifMet 29 = .ok (.ireturn, 1) := by decide +kernel
theorem dX5_ifMet_30 : decode cX5_ifMet 30 = .ok (.iload 5, 2) := by decide +kernel
theorem dX5_ifMet_32 : decode cX5_ifMet 32 = .ok (.ifCond .ge 6, 3) := by decide +kernel
theorem dX5_ifMet_35 : decode cX5_ifMet 35 = .ok (.iload 5, 2) := by decide +kernel
theorem dX5_ifMet_37 : decode cX5_ifMet 37 = .ok (.ireturn, 1) := by decide +kernel
theorem dX5_ifMet_38 : decode cX5_ifMet 38 = .ok (.aload_n 0, 1) := by decide +kernel
theorem dX5_ifMet_39 : decode cX5_ifMet 39 = .ok (.getfield 7, 3) := by decide +kernel
theorem dX5_ifMet_42 : decode cX5_ifMet 42 = .ok (.iconst 0, 1) := by decide +kernel
theorem dX5_ifMet_43 : decode cX5_ifMet 43 = .ok (.aload_n 0, 1) := by decide +kernel
theorem dX5_ifMet_44 : decode cX5_ifMet 44 = .ok (.getfield 13, 3) := by decide +kernel
theorem dX5_ifMet_47 : decode cX5_ifMet 47 = .ok (.iconst 0, 1) := by decide +kernel
theorem dX5_ifMet_48 : decode cX5_ifMet 48 = .ok (.invokestatic 26, 3) := by decide +kernel
theorem dX5_ifMet_51 : decode cX5_ifMet 51 = .ok (.aload_n 0, 1) := by decide +kernel
theorem dX5_ifMet_52 : decode cX5_ifMet 52 = .ok (.iload_n 1, 1) := by decide +kernel
theorem dX5_ifMet_53 : decode cX5_ifMet 53 = .ok (.iload_n 2, 1) := by decide +kernel
theorem dX5_ifMet_54 : decode cX5_ifMet 54 = .ok (.iload_n 3, 1) := by decide +kernel
theorem dX5_ifMet_55 : decode cX5_ifMet 55 = .ok (.invokevirtual 89, 3) := by decide +kernel
theorem dX5_ifMet_58 : decode cX5_ifMet 58 = .ok (.istore 6, 2) := by decide +kernel
theorem dX5_ifMet_60 : decode cX5_ifMet 60 = .ok (.aload_n 0, 1) := by decide +kernel
theorem dX5_ifMet_61 : decode cX5_ifMet 61 = .ok (.iload_n 1, 1) := by decide +kernel
theorem dX5_ifMet_62 : decode cX5_ifMet 62 = .ok (.iload_n 2, 1) := by decide +kernel
theorem dX5_ifMet_63 : decode cX5_ifMet 63 = .ok (.invokevirtual 137, 3) := by decide +kernel
theorem dX5_ifMet_66 : decode cX5_ifMet 66 = .ok (.istore 7, 2) := by decide +kernel
theorem dX5_ifMet_68 : decode cX5_ifMet 68 = .ok (.aload_n 0, 1) := by decide +kernel
theorem dX5_ifMet_69 : decode cX5_ifMet 69 = .ok (.getfield 13, 3) := by decide +kernel
theorem dX5_ifMet_72 : decode cX5_ifMet 72 = .ok (.iconst 0, 1) := by decide +kernel
theorem dX5_ifMet_73 : decode cX5_ifMet 73 = .ok (.aload_n 0, 1) := by decide +kernel
theorem dX5_ifMet_74 : decode cX5_ifMet 74 = .ok (.getfield 7, 3) := by decide +kernel
theorem dX5_ifMet_77 : decode cX5_ifMet 77 = .ok (.iconst 0, 1) := by decide +kernel
theorem dX5_ifMet_78 : decode cX5_ifMet 78 = .ok (.invokestatic 26, 3) := by decide +kernel
theorem dX5_ifMet_81 : decode cX5_ifMet 81 = .ok (.iload 4, 2) := by decide +kernel
theorem dX5_ifMet_83 : decode cX5_ifMet 83 = .ok (.ifCond .ne 10, 3) := by decide +kernel
theorem dX5_ifMet_86 : decode cX5_ifMet 86 = .ok (.aload_n 0, 1) := by decide +kernel
theorem dX5_ifMet_87 : decode cX5_ifMet 87 = .ok (.getfield 61, 3) := by decide +kernel
theorem dX5_ifMet_90 : decode cX5_ifMet 90 = .ok (.goto 37, 3) := by decide +kernel
theorem dX5_ifMet_93 : decode cX5_ifMet 93 = .ok (.iload 4, 2) := by decide +kernel
theorem dX5_ifMet_95 : decode cX5_ifMet 95 = .ok (.iconst 1, 1) := by decide +kernel
theorem dX5_ifMet_96 : decode cX5_ifMet 96 = .ok (.if_icmp .ne 10, 3) := by decide +kernel
theorem dX5_ifMet_99 : decode cX5_ifMet 99 = .ok (.aload_n 0, 1) := by decide +kernel
theorem dX5_ifMet_100 : decode cX5_ifMet 100 = .ok (.getfield 70, 3) := by decide +kernel
theorem dX5_ifMet_103 : decode cX5_ifMet 103 = .ok (.goto 24, 3) := by decide +kernel
theorem dX5_ifMet_106 : decode cX5_ifMet 106 = .ok (.iload 4, 2) := by decide +kernel
theorem dX5_ifMet_108 : decode cX5_ifMet 108 = .ok (.iconst 2, 1) := by decide +kernel
theorem dX5_ifMet_109 : decode cX5_ifMet 109 = .ok (.if_icmp .ne 16, 3) := by decide +kernel
theorem dX5_ifMet_112 : decode cX5_ifMet 112 = .ok (.iload 6, 2) := by decide +kernel
theorem dX5_ifMet_114 : decode cX5_ifMet 114 = .ok (.ifCond .eq 7, 3) := by decide +kernel
theorem dX5_ifMet_117 : decode cX5_ifMet 117 = .ok (.iconst 1, 1) := by decide +kernel
theorem dX5_ifMet_118 : decode cX5_ifMet 118 = .ok (.goto 9, 3) := by decide +kernel
theorem dX5_ifMet_121 : decode cX5_ifMet 121 = .ok (.iconst 0, 1) := by decide +kernel
theorem dX5_ifMet_122 : decode cX5_ifMet 122 = .ok (.goto 5, 3) := by decide +kernel
theorem dX5_ifMet_125 : decode cX5_ifMet 125 = .ok (.iload 7, 2) := by decide +kernel
theorem dX5_ifMet_127 : decode cX5_ifMet 127 = .ok (.ireturn, 1) := by decide +kernel
theorem dX5_ifChat_0 : decode cX5_ifChat 0 = .ok (.aload_n 0, 1) := by decide +kernel
theorem dX5_ifChat_1 : decode cX5_ifChat 1 = .ok (.iload_n 1, 1) := by decide +kernel
theorem dX5_ifChat_2 : decode cX5_ifChat 2 = .ok (.invokevirtual 99, 3) := by decide +kernel
theorem dX5_ifChat_5 : decode cX5_ifChat 5 = .ok (.istore_n 2, 1) := by decide +kernel
theorem dX5_ifChat_6 : decode cX5_ifChat 6 = .ok (.iload_n 2, 1) := by decide +kernel
theorem dX5_ifChat_7 : decode cX5_ifChat 7 = .ok (.ifCond .ge 5, 3) := by decide +kernel
theorem dX5_ifChat_10 : decode cX5_ifChat 10 = .ok (.iload_n 2, 1) := by decide +kernel
theorem dX5_ifChat_11 : decode cX5_ifChat 11 = .ok (.ireturn, 1) := by decide +kernel
theorem dX5_ifChat_12 : decode cX5_ifChat 12 = .ok (.aload_n 0, 1) := by decide +kernel
theorem dX5_ifChat_13 : decode cX5_ifChat 13 = .ok (.getfield 7, 3) := by decide +kernel
theorem dX5_ifChat_16 : decode cX5_ifChat 16 = .ok (.iconst 0, 1) := by decide +kernel
theorem dX5_ifChat_17 : decode cX5_ifChat 17 = .ok (.aload_n 0, 1) := by decide +kernel
theorem dX5_ifChat_18 : decode cX5_ifChat 18 = .ok (.getfield 13, 3) := by decide +kernel
theorem dX5_ifChat_21 : decode cX5_ifChat 21 = .ok (.iconst 0, 1) := by decide +kernel
theorem dX5_ifChat_22 : decode cX5_ifChat 22 = .ok (.invokestatic 26, 3) := by decide +kernel
theorem dX5_ifChat_25 : decode cX5_ifChat 25 = .ok (.aload_n 0, 1) := by decide +kernel
theorem dX5_ifChat_26 : decode cX5_ifChat 26 = .ok (.iload_n 1, 1) := by decide +kernel
theorem dX5_ifChat_27 : decode cX5_ifChat 27 = .ok (.invokevirtual 102, 3) := by decide +kernel
theorem dX5_ifChat_30 : decode cX5_ifChat 30 = .ok (.istore_n 3, 1) := by decide +kernel
theorem dX5_ifChat_31 : decode cX5_ifChat 31 = .ok (.aload_n 0, 1) := by decide +kernel
theorem dX5_ifChat_32 : decode cX5_ifChat 32 = .ok (.getfield 13, 3) := by decide +kernel
theorem dX5_ifChat_35 : decode cX5_ifChat 35 = .ok (.iconst 0, 1) := by decide +kernel
theorem dX5_ifChat_36 : decode cX5_ifChat 36 = .ok (.aload_n 0, 1) := by decide +kernel
theorem dX5_ifChat_37 : decode cX5_ifChat 37 = .ok (.getfield 7, 3) := by decide +kernel
theorem dX5_ifChat_40 : decode cX5_ifChat 40 = .ok (.iconst 0, 1) := by decide +kernel
theorem dX5_ifChat_41 : decode cX5_ifChat 41 = .ok (.invokestatic 26, 3) := by decide +kernel
theorem dX5_ifChat_44 : decode cX5_ifChat 44 = .ok (.iload_n 3, 1) := by decide +kernel
theorem dX5_ifChat_45 : decode cX5_ifChat 45 = .ok (.ireturn, 1) := by decide +kernel
theorem dX5_bestSayer_0 : decode cX5_bestSayer 0 = .ok (.aload_n 0, 1) := by decide +kernel
theorem dX5_bestSayer_1 : decode cX5_bestSayer 1 = .ok (.iload_n 1, 1) := by decide +kernel
theorem dX5_bestSayer_2 : decode cX5_bestSayer 2 = .ok (.invokevirtual 45, 3) := by decide +kernel
theorem dX5_bestSayer_5 : decode cX5_bestSayer 5 = .ok (.ifCond .ne 5, 3) := by decide +kernel
theorem dX5_bestSayer_8 : decode cX5_bestSayer 8 = .ok (.iconst (-1), 1) := by decide +kernel
theorem dX5_bestSayer_9 : decode cX5_bestSayer 9 = .ok (.ireturn, 1) := by decide +kernel
theorem dX5_bestSayer_10 : decode cX5_bestSayer 10 = .ok (.bipush (-6), 2) := by decide +kernel
theorem dX5_bestSayer_12 : decode cX5_bestSayer 12 = .ok (.istore_n 2, 1) := by decide +kernel
theorem dX5_bestSayer_13 : decode cX5_bestSayer 13 = .ok (.iconst 0, 1) := by decide +kernel
theorem dX5_bestSayer_14 : decode cX5_bestSayer 14 = .ok (.istore_n 3, 1) := by decide +kernel
theorem dX5_bestSayer_15 : decode cX5_bestSayer 15 = .ok (.iload_n 3, 1) := by decide +kernel
theorem dX5_bestSayer_16 : decode cX5_bestSayer 16 = .ok (.bipush 8, 2) := by decide +kernel
theorem dX5_bestSayer_18 : decode cX5_bestSayer 18 = .ok (.if_icmp .ge 49, 3) := by decide +kernel
theorem dX5_bestSayer_21 : decode cX5_bestSayer 21 = .ok (.aload_n 0, 1) := by decide +kernel
theorem dX5_bestSayer_22 : decode cX5_bestSayer 22 = .ok (.iload_n 3, 1) := by decide +kernel
theorem dX5_bestSayer_23 : decode cX5_bestSayer 23 = .ok (.invokevirtual 45, 3) := by decide +kernel
theorem dX5_bestSayer_26 : decode cX5_bestSayer 26 = .ok (.ifCond .eq 33, 3) := by decide +kernel
theorem dX5_bestSayer_29 : decode cX5_bestSayer 29 = .ok (.iload_n 3, 1) := by decide +kernel
theorem dX5_bestSayer_30 : decode cX5_bestSayer 30 = .ok (.iload_n 1, 1) := by decide +kernel
theorem dX5_bestSayer_31 : decode cX5_bestSayer 31 = .ok (.if_icmp .eq 28, 3) := by decide +kernel
theorem dX5_bestSayer_34 : decode cX5_bestSayer 34 = .ok (.iload_n 2, 1) := by decide +kernel
theorem dX5_bestSayer_35 : decode cX5_bestSayer 35 = .ok (.bipush (-6), 2) := by decide +kernel
theorem dX5_bestSayer_37 : decode cX5_bestSayer 37 = .ok (.if_icmp .eq 18, 3) := by decide +kernel
theorem dX5_bestSayer_40 : decode cX5_bestSayer 40 = .ok (.aload_n 0, 1) := by decide +kernel
theorem dX5_bestSayer_41 : decode cX5_bestSayer 41 = .ok (.iload_n 3, 1) := by decide +kernel
theorem dX5_bestSayer_42 : decode cX5_bestSayer 42 = .ok (.iload_n 1, 1) := by decide +kernel
theorem dX5_bestSayer_43 : decode cX5_bestSayer 43 = .ok (.invokevirtual 140, 3) := by decide +kernel
theorem dX5_bestSayer_46 : decode cX5_bestSayer 46 = .ok (.aload_n 0, 1) := by decide +kernel
theorem dX5_bestSayer_47 : decode cX5_bestSayer 47 = .ok (.iload_n 2, 1) := by decide +kernel
theorem dX5_bestSayer_48 : decode cX5_bestSayer 48 = .ok (.iload_n 1, 1) := by decide +kernel
theorem dX5_bestSayer_49 : decode cX5_bestSayer 49 = .ok (.invokevirtual 140, 3) := by decide +kernel
theorem dX5_bestSayer_52 : decode cX5_bestSayer 52 = .ok (.if_icmp .le 7, 3) := by decide +kernel
theorem dX5_bestSayer_55 : decode cX5_bestSayer 55 = .ok (.iload_n 3, 1) := by decide +kernel
theorem dX5_bestSayer_56 : decode cX5_bestSayer 56 = .ok (.goto 4, 3) := by decide +kernel
theorem dX5_bestSayer_59 : decode cX5_bestSayer 59 = .ok (.iload_n 2, 1) := by decide +kernel
theorem dX5_bestSayer_60 : decode cX5_bestSayer 60 = .ok (.istore_n 2, 1) := by decide +kernel
theorem dX5_bestSayer_61 : decode cX5_bestSayer 61 = .ok (.iinc 3 1, 3) := by decide +kernel
theorem dX5_bestSayer_64 : decode cX5_bestSayer 64 = .ok (.goto (-49), 3) := by decide +kernel
theorem dX5_bestSayer_67 : decode cX5_bestSayer 67 = .ok (.iload_n 2, 1) := by decide +kernel
theorem dX5_bestSayer_68 : decode cX5_bestSayer 68 = .ok (.ireturn, 1) := by decide +kernel
theorem dX5_type_0 : decode cX5_type 0 = .ok (.iload_n 1, 1) := by decide +kernel
theorem dX5_type_1 : decode cX5_type 1 = .ok (.bipush 33, 2) := by decide +kernel
theorem dX5_type_3 : decode cX5_type 3 = .ok (.bipush 126, 2) := by decide +kernel
theorem dX5_type_5 : decode cX5_type 5 = .ok (.invokestatic 30, 3) := by decide +kernel
theorem dX5_type_8 : decode cX5_type 8 = .ok (.ifCond .ne 6, 3) := by decide +kernel
theorem dX5_type_11 : decode cX5_type 11 = .ok (.bipush (-2), 2) := by decide +kernel
theorem dX5_type_13 : decode cX5_type 13 = .ok (.ireturn, 1) := by decide +kernel
theorem dX5_type_14 : decode cX5_type 14 = .ok (.aload_n 0, 1) := by decide +kernel
theorem dX5_type_15 : decode cX5_type 15 = .ok (.getfield 146, 3) := by decide +kernel
theorem dX5_type_18 : decode cX5_type 18 = .ok (.bipush 80, 2) := by decide +kernel
theorem dX5_type_20 : decode cX5_type 20 = .ok (.if_icmp .ne 6, 3) := by decide +kernel
theorem dX5_type_23 : decode cX5_type 23 = .ok (.bipush (-4), 2) := by decide +kernel
theorem dX5_type_25 : decode cX5_type 25 = .ok (.ireturn, 1) := by decide +kernel
theorem dX5_type_26 : decode cX5_type 26 = .ok (.aload_n 0, 1) := by decide +kernel
theorem dX5_type_27 : decode cX5_type 27 = .ok (.getfield 19, 3) := by decide +kernel
theorem dX5_type_30 : decode cX5_type 30 = .ok (.aload_n 0, 1) := by decide +kernel
theorem dX5_type_31 : decode cX5_type 31 = .ok (.getfield 146, 3) := by decide +kernel
theorem dX5_type_34 : decode cX5_type 34 = .ok (.iload_n 1, 1) := by decide +kernel
theorem dX5_type_35 : decode cX5_type 35 = .ok (.iastore, 1) := by decide +kernel
theorem dX5_type_36 : decode cX5_type 36 = .ok (.aload_n 0, 1) := by decide +kernel
theorem dX5_type_37 : decode cX5_type 37 = .ok (.dup, 1) := by decide +kernel
theorem dX5_type_38 : decode cX5_type 38 = .ok (.getfield 146, 3) := by decide +kernel
theorem dX5_type_41 : decode cX5_type 41 = .ok (.iconst 1, 1) := by decide +kernel
theorem dX5_type_42 : decode cX5_type 42 = .ok (.iadd, 1) := by decide +kernel
theorem dX5_type_43 : decode cX5_type 43 = .ok (.putfield 146, 3) := by decide +kernel
theorem dX5_type_46 : decode cX5_type 46 = .ok (.aload_n 0, 1) := by decide +kernel
theorem dX5_type_47 : decode cX5_type 47 = .ok (.getfield 146, 3) := by decide +kernel
theorem dX5_type_50 : decode cX5_type 50 = .ok (.ireturn, 1) := by decide +kernel
theorem dX5_clearText_0 : decode cX5_clearText 0 = .ok (.aload_n 0, 1) := by decide +kernel
theorem dX5_clearText_1 : decode cX5_clearText 1 = .ok (.getfield 146, 3) := by decide +kernel
theorem dX5_clearText_4 : decode cX5_clearText 4 = .ok (.istore_n 1, 1) := by decide +kernel
theorem dX5_clearText_5 : decode cX5_clearText 5 = .ok (.aload_n 0, 1) := by decide +kernel
theorem dX5_clearText_6 : decode cX5_clearText 6 = .ok (.iconst 0, 1) := by decide +kernel
theorem dX5_clearText_7 : decode cX5_clearText 7 = .ok (.putfield 146, 3) := by decide +kernel
theorem dX5_clearText_10 : decode cX5_clearText 10 = .ok (.iload_n 1, 1) := by decide +kernel
theorem dX5_clearText_11 : decode cX5_clearText 11 = .ok (.ireturn, 1) := by decide +kernel
theorem dX5_character_0 : decode cX5_character 0 = .ok (.iload_n 1, 1) := by decide +kernel
theorem dX5_character_1 : decode cX5_character 1 = .ok (.aload_n 0, 1) := by decide +kernel
theorem dX5_character_2 : decode cX5_character 2 = .ok (.getfield 146, 3) := by decide +kernel
theorem dX5_character_5 : decode cX5_character 5 = .ok (.if_icmp .ge 12, 3) := by decide +kernel
theorem dX5_character_8 : decode cX5_character 8 = .ok (.aload_n 0, 1) := by decide +kernel
theorem dX5_character_9 : decode cX5_character 9 = .ok (.getfield 19, 3) := by decide +kernel
theorem dX5_character_12 : decode cX5_character 12 = .ok (.iload_n 1, 1) := by decide +kernel
theorem dX5_character_13 : decode cX5_character 13 = .ok (.iaload, 1) := by decide +kernel
theorem dX5_character_14 : decode cX5_character 14 = .ok (.goto 4, 3) := by decide +kernel
theorem dX5_character_17 : decode cX5_character 17 = .ok (.iconst (-1), 1) := by decide +kernel
theorem dX5_character_18 : decode cX5_character 18 = .ok (.ireturn, 1) := by decide +kernel
theorem dX5_isNext_0 : decode cX5_isNext 0 = .ok (.aload_n 0, 1) := by decide +kernel
theorem dX5_isNext_1 : decode cX5_isNext 1 = .ok (.aload_n 0, 1) := by decide +kernel
theorem dX5_isNext_2 : decode cX5_isNext 2 = .ok (.getfield 149, 3) := by decide +kernel
theorem dX5_isNext_5 : decode cX5_isNext 5 = .ok (.invokevirtual 152, 3) := by decide +kernel
theorem dX5_isNext_8 : decode cX5_isNext 8 = .ok (.iload_n 1, 1) := by decide +kernel
theorem dX5_isNext_9 : decode cX5_isNext 9 = .ok (.if_icmp .ne 7, 3) := by decide +kernel
theorem dX5_isNext_12 : decode cX5_isNext 12 = .ok (.iconst 1, 1) := by decide +kernel
theorem dX5_isNext_13 : decode cX5_isNext 13 = .ok (.goto 4, 3) := by decide +kernel
theorem dX5_isNext_16 : decode cX5_isNext 16 = .ok (.iconst 0, 1) := by decide +kernel
theorem dX5_isNext_17 : decode cX5_isNext 17 = .ok (.istore_n 2, 1) := by decide +kernel
theorem dX5_isNext_18 : decode cX5_isNext 18 = .ok (.aload_n 0, 1) := by decide +kernel
theorem dX5_isNext_19 : decode cX5_isNext 19 = .ok (.dup, 1) := by decide +kernel
theorem dX5_isNext_20 : decode cX5_isNext 20 = .ok (.getfield 149, 3) := by decide +kernel
theorem dX5_isNext_23 : decode cX5_isNext 23 = .ok (.iload_n 2, 1) := by decide +kernel
theorem dX5_isNext_24 : decode cX5_isNext 24 = .ok (.ifCond .eq 7, 3) := by decide +kernel
theorem dX5_isNext_27 : decode cX5_isNext 27 = .ok (.iconst 1, 1) := by decide +kernel
theorem dX5_isNext_28 : decode cX5_isNext 28 = .ok (.goto 4, 3) := by decide +kernel
theorem dX5_isNext_31 : decode cX5_isNext 31 = .ok (.iconst 0, 1) := by decide +kernel
theorem dX5_isNext_32 : decode cX5_isNext 32 = .ok (.iadd, 1) := by decide +kernel
theorem dX5_isNext_33 : decode cX5_isNext 33 = .ok (.putfield 149, 3) := by decide +kernel
theorem dX5_isNext_36 : decode cX5_isNext 36 = .ok (.iload_n 2, 1) := by decide +kernel
theorem dX5_isNext_37 : decode cX5_isNext 37 = .ok (.ireturn, 1) := by decide +kernel
theorem dX5_readsDigit_0 : decode cX5_readsDigit 0 = .ok (.aload_n 0, 1) := by decide +kernel
theorem dX5_readsDigit_1 : decode cX5_readsDigit 1 = .ok (.aload_n 0, 1) := by decide +kernel
theorem dX5_readsDigit_2 : decode cX5_readsDigit 2 = .ok (.getfield 149, 3) := by decide +kernel
theorem dX5_readsDigit_5 : decode cX5_readsDigit 5 = .ok (.invokevirtual 152, 3) := by decide +kernel
theorem dX5_readsDigit_8 : decode cX5_readsDigit 8 = .ok (.bipush 48, 2) := by decide +kernel
theorem dX5_readsDigit_10 : decode cX5_readsDigit 10 = .ok (.bipush 48, 2) := by decide +kernel
theorem dX5_readsDigit_12 : decode cX5_readsDigit 12 = .ok (.iload_n 1, 1) := by decide +kernel
theorem dX5_readsDigit_13 : decode cX5_readsDigit 13 = .ok (.iadd, 1) := by decide +kernel
theorem dX5_readsDigit_14 : decode cX5_readsDigit 14 = .ok (.invokestatic 30, 3) := by decide +kernel
theorem dX5_readsDigit_17 : decode cX5_readsDigit 17 = .ok (.istore_n 2, 1) := by decide +kernel
theorem dX5_readsDigit_18 : decode cX5_readsDigit 18 = .ok (.aload_n 0, 1) := by decide +kernel
theorem dX5_readsDigit_19 : decode cX5_readsDigit 19 = .ok (.aload_n 0, 1) := by decide +kernel
theorem dX5_readsDigit_20 : decode cX5_readsDigit 20 = .ok (.aload_n 0, 1) := by decide +kernel
theorem dX5_readsDigit_21 : decode cX5_readsDigit 21 = .ok (.getfield 149, 3) := by decide +kernel
theorem dX5_readsDigit_24 : decode cX5_readsDigit 24 = .ok (.invokevirtual 152, 3) := by decide +kernel
theorem dX5_readsDigit_27 : decode cX5_readsDigit 27 = .ok (.bipush 48, 2) := by decide +kernel
theorem dX5_readsDigit_29 : decode cX5_readsDigit 29 = .ok (.isub, 1) := by decide +kernel
theorem dX5_readsDigit_30 : decode cX5_readsDigit 30 = .ok (.putfield 155, 3) := by decide +kernel
theorem dX5_readsDigit_33 : decode cX5_readsDigit 33 = .ok (.aload_n 0, 1) := by decide +kernel
theorem dX5_readsDigit_34 : decode cX5_readsDigit 34 = .ok (.dup, 1) := by decide +kernel
theorem dX5_readsDigit_35 : decode cX5_readsDigit 35 = .ok (.getfield 149, 3) := by decide +kernel
theorem dX5_readsDigit_38 : decode cX5_readsDigit 38 = .ok (.iload_n 2, 1) := by decide +kernel
theorem dX5_readsDigit_39 : decode cX5_readsDigit 39 = .ok (.ifCond .eq 7, 3) := by decide +kernel
theorem dX5_readsDigit_42 : decode cX5_readsDigit 42 = .ok (.iconst 1, 1) := by decide +kernel
theorem dX5_readsDigit_43 : decode cX5_readsDigit 43 = .ok (.goto 4, 3) := by decide +kernel
theorem dX5_readsDigit_46 : decode cX5_readsDigit 46 = .ok (.iconst 0, 1) := by decide +kernel
theorem dX5_readsDigit_47 : decode cX5_readsDigit 47 = .ok (.iadd, 1) := by decide +kernel
theorem dX5_readsDigit_48 : decode cX5_readsDigit 48 = .ok (.putfield 149, 3) := by decide +kernel
theorem dX5_readsDigit_51 : decode cX5_readsDigit 51 = .ok (.iload_n 2, 1) := by decide +kernel
theorem dX5_readsDigit_52 : decode cX5_readsDigit 52 = .ok (.ireturn, 1) := by decide +kernel
theorem dX5_isGesture_0 : decode cX5_isGesture 0 = .ok (.aload_n 0, 1) := by decide +kernel
theorem dX5_isGesture_1 : decode cX5_isGesture 1 = .ok (.aload_n 0, 1) := by decide +kernel
theorem dX5_isGesture_2 : decode cX5_isGesture 2 = .ok (.getfield 149, 3) := by decide +kernel
theorem dX5_isGesture_5 : decode cX5_isGesture 5 = .ok (.invokevirtual 152, 3) := by decide +kernel
theorem dX5_isGesture_8 : decode cX5_isGesture 8 = .ok (.bipush 119, 2) := by decide +kernel
theorem dX5_isGesture_10 : decode cX5_isGesture 10 = .ok (.if_icmp .eq 16, 3) := by decide +kernel
theorem dX5_isGesture_13 : decode cX5_isGesture 13 = .ok (.aload_n 0, 1) := by decide +kernel
theorem dX5_isGesture_14 : decode cX5_isGesture 14 = .ok (.aload_n 0, 1) := by decide +kernel
theorem dX5_isGesture_15 : decode cX5_isGesture 15 = .ok (.getfield 149, 3) := by decide +kernel
theorem dX5_isGesture_18 : decode cX5_isGesture 18 = .ok (.invokevirtual 152, 3) := by decide +kernel
theorem dX5_isGesture_21 : decode cX5_isGesture 21 = .ok (.bipush 110, 2) := by decide +kernel
theorem dX5_isGesture_23 : decode cX5_isGesture 23 = .ok (.if_icmp .ne 7, 3) := by decide +kernel
theorem dX5_isGesture_26 : decode cX5_isGesture 26 = .ok (.iconst 1, 1) := by decide +kernel
theorem dX5_isGesture_27 : decode cX5_isGesture 27 = .ok (.goto 4, 3) := by decide +kernel
theorem dX5_isGesture_30 : decode cX5_isGesture 30 = .ok (.iconst 0, 1) := by decide +kernel
theorem dX5_isGesture_31 : decode cX5_isGesture 31 = .ok (.ireturn, 1) := by decide +kernel
theorem dX5_readsWord_0 : decode cX5_readsWord 0 = .ok (.iconst 0, 1) := by decide +kernel
theorem dX5_readsWord_1 : decode cX5_readsWord 1 = .ok (.istore_n 1, 1) := by decide +kernel
theorem dX5_readsWord_2 : decode cX5_readsWord 2 = .ok (.iconst 0, 1) := by decide +kernel
theorem dX5_readsWord_3 : decode cX5_readsWord 3 = .ok (.istore_n 2, 1) := by decide +kernel
theorem dX5_readsWord_4 : decode cX5_readsWord 4 = .ok (.iload_n 1, 1) := by decide +kernel
theorem dX5_readsWord_5 : decode cX5_readsWord 5 = .ok (.iconst 3, 1) := by decide +kernel
theorem dX5_readsWord_6 : decode cX5_readsWord 6 = .ok (.if_icmp .ge 49, 3) := by decide +kernel
theorem dX5_readsWord_9 : decode cX5_readsWord 9 = .ok (.aload_n 0, 1) := by decide +kernel
theorem dX5_readsWord_10 : decode cX5_readsWord 10 = .ok (.invokevirtual 158, 3) := by decide +kernel
theorem dX5_readsWord_13 : decode cX5_readsWord 13 = .ok (.ifCond .eq 42, 3) := by decide +kernel
theorem dX5_readsWord_16 : decode cX5_readsWord 16 = .ok (.iconst 2, 1) := by decide +kernel
theorem dX5_readsWord_17 : decode cX5_readsWord 17 = .ok (.iload_n 2, 1) := by decide +kernel
theorem dX5_readsWord_18 : decode cX5_readsWord 18 = .ok (.imul, 1) := by decide +kernel
theorem dX5_readsWord_19 : decode cX5_readsWord 19 = .ok (.aload_n 0, 1) := by decide +kernel
theorem dX5_readsWord_20 : decode cX5_readsWord 20 = .ok (.aload_n 0, 1) := by decide +kernel
theorem dX5_readsWord_21 : decode cX5_readsWord 21 = .ok (.getfield 149, 3) := by decide +kernel
theorem dX5_readsWord_24 : decode cX5_readsWord 24 = .ok (.invokevirtual 152, 3) := by decide +kernel
theorem dX5_readsWord_27 : decode cX5_readsWord 27 = .ok (.bipush 110, 2) := by decide +kernel
theorem dX5_readsWord_29 : decode cX5_readsWord 29 = .ok (.if_icmp .ne 7, 3) := by decide +kernel
theorem dX5_readsWord_32 : decode cX5_readsWord 32 = .ok (.iconst 1, 1) := by decide +kernel
theorem dX5_readsWord_33 : decode cX5_readsWord 33 = .ok (.goto 4, 3) := by decide +kernel
theorem dX5_readsWord_36 : decode cX5_readsWord 36 = .ok (.iconst 0, 1) := by decide +kernel
theorem dX5_readsWord_37 : decode cX5_readsWord 37 = .ok (.iadd, 1) := by decide +kernel
theorem dX5_readsWord_38 : decode cX5_readsWord 38 = .ok (.istore_n 2, 1) := by decide +kernel
theorem dX5_readsWord_39 : decode cX5_readsWord 39 = .ok (.iinc 1 1, 3) := by decide +kernel
theorem dX5_readsWord_42 : decode cX5_readsWord 42 = .ok (.aload_n 0, 1) := by decide +kernel
theorem dX5_readsWord_43 : decode cX5_readsWord 43 = .ok (.dup, 1) := by decide +kernel
theorem dX5_readsWord_44 : decode cX5_readsWord 44 = .ok (.getfield 149, 3) := by decide +kernel
theorem dX5_readsWord_47 : decode cX5_readsWord 47 = .ok (.iconst 1, 1) := by decide +kernel
theorem dX5_readsWord_48 : decode cX5_readsWord 48 = .ok (.iadd, 1) := by decide +kernel
theorem dX5_readsWord_49 : decode cX5_readsWord 49 = .ok (.putfield 149, 3) := by decide +kernel
theorem dX5_readsWord_52 : decode cX5_readsWord 52 = .ok (.goto (-48), 3) := by decide +kernel
theorem dX5_readsWord_55 : decode cX5_readsWord 55 = .ok (.aload_n 0, 1) := by decide +kernel
theorem dX5_readsWord_56 : decode cX5_readsWord 56 = .ok (.iload_n 1, 1) := by decide +kernel
theorem dX5_readsWord_57 : decode cX5_readsWord 57 = .ok (.iconst 1, 1) := by decide +kernel
theorem dX5_readsWord_58 : decode cX5_readsWord 58 = .ok (.if_icmp .ne 7, 3) := by decide +kernel
theorem dX5_readsWord_61 : decode cX5_readsWord 61 = .ok (.iload_n 2, 1) := by decide +kernel
theorem dX5_readsWord_62 : decode cX5_readsWord 62 = .ok (.goto 18, 3) := by decide +kernel
theorem dX5_readsWord_65 : decode cX5_readsWord 65 = .ok (.iload_n 1, 1) := by decide +kernel
theorem dX5_readsWord_66 : decode cX5_readsWord 66 = .ok (.iconst 2, 1) := by decide +kernel
theorem dX5_readsWord_67 : decode cX5_readsWord 67 = .ok (.if_icmp .ne 9, 3) := by decide +kernel
theorem dX5_readsWord_70 : decode cX5_readsWord 70 = .ok (.iload_n 2, 1) := by decide +kernel
theorem dX5_readsWord_71 : decode cX5_readsWord 71 = .ok (.iconst 2, 1) := by decide +kernel
theorem dX5_readsWord_72 : decode cX5_readsWord 72 = .ok (.iadd, 1) := by decide +kernel
theorem dX5_readsWord_73 : decode cX5_readsWord 73 = .ok (.goto 7, 3) := by decide +kernel
theorem dX5_readsWord_76 : decode cX5_readsWord 76 = .ok (.iload_n 2, 1) := by decide +kernel
theorem dX5_readsWord_77 : decode cX5_readsWord 77 = .ok (.bipush 6, 2) := by decide +kernel
theorem dX5_readsWord_79 : decode cX5_readsWord 79 = .ok (.iadd, 1) := by decide +kernel
theorem dX5_readsWord_80 : decode cX5_readsWord 80 = .ok (.putfield 162, 3) := by decide +kernel
theorem dX5_readsWord_83 : decode cX5_readsWord 83 = .ok (.iload_n 1, 1) := by decide +kernel
theorem dX5_readsWord_84 : decode cX5_readsWord 84 = .ok (.ifCond .le 7, 3) := by decide +kernel
theorem dX5_readsWord_87 : decode cX5_readsWord 87 = .ok (.iconst 1, 1) := by decide +kernel
theorem dX5_readsWord_88 : decode cX5_readsWord 88 = .ok (.goto 4, 3) := by decide +kernel
theorem dX5_readsWord_91 : decode cX5_readsWord 91 = .ok (.iconst 0, 1) := by decide +kernel
theorem dX5_readsWord_92 : decode cX5_readsWord 92 = .ok (.ireturn, 1) := by decide +kernel
theorem dX5_readsHabit_0 : decode cX5_readsHabit 0 = .ok (.aload_n 0, 1) := by decide +kernel
theorem dX5_readsHabit_1 : decode cX5_readsHabit 1 = .ok (.bipush 7, 2) := by decide +kernel
theorem dX5_readsHabit_3 : decode cX5_readsHabit 3 = .ok (.invokevirtual 165, 3) := by decide +kernel
theorem dX5_readsHabit_6 : decode cX5_readsHabit 6 = .ok (.istore_n 1, 1) := by decide +kernel
theorem dX5_readsHabit_7 : decode cX5_readsHabit 7 = .ok (.aload_n 0, 1) := by decide +kernel
theorem dX5_readsHabit_8 : decode cX5_readsHabit 8 = .ok (.aload_n 0, 1) := by decide +kernel
theorem dX5_readsHabit_9 : decode cX5_readsHabit 9 = .ok (.getfield 155, 3) := by decide +kernel
theorem dX5_readsHabit_12 : decode cX5_readsHabit 12 = .ok (.putfield 168, 3) := by decide +kernel
theorem dX5_readsHabit_15 : decode cX5_readsHabit 15 = .ok (.iload_n 1, 1) := by decide +kernel
theorem dX5_readsHabit_16 : decode cX5_readsHabit 16 = .ok (.ifCond .eq 24, 3) := by decide +kernel
theorem dX5_readsHabit_19 : decode cX5_readsHabit 19 = .ok (.aload_n 0, 1) := by decide +kernel
theorem dX5_readsHabit_20 : decode cX5_readsHabit 20 = .ok (.bipush 46, 2) := by decide +kernel
theorem dX5_readsHabit_22 : decode cX5_readsHabit 22 = .ok (.invokevirtual 171, 3) := by decide +kernel
theorem dX5_readsHabit_25 : decode cX5_readsHabit 25 = .ok (.ifCond .eq 15, 3) := by decide +kernel
theorem dX5_readsHabit_28 : decode cX5_readsHabit 28 = .ok (.aload_n 0, 1) := by decide +kernel
theorem dX5_readsHabit_29 : decode cX5_readsHabit 29 = .ok (.iconst 5, 1) := by decide +kernel
theorem dX5_readsHabit_30 : decode cX5_readsHabit 30 = .ok (.invokevirtual 165, 3) := by decide +kernel
theorem dX5_readsHabit_33 : decode cX5_readsHabit 33 = .ok (.ifCond .eq 7, 3) := by decide +kernel
theorem dX5_readsHabit_36 : decode cX5_readsHabit 36 = .ok (.iconst 1, 1) := by decide +kernel
theorem dX5_readsHabit_37 : decode cX5_readsHabit 37 = .ok (.goto 4, 3) := by decide +kernel
theorem dX5_readsHabit_40 : decode cX5_readsHabit 40 = .ok (.iconst 0, 1) := by decide +kernel
theorem dX5_readsHabit_41 : decode cX5_readsHabit 41 = .ok (.istore_n 1, 1) := by decide +kernel
theorem dX5_readsHabit_42 : decode cX5_readsHabit 42 = .ok (.aload_n 0, 1) := by decide +kernel
theorem dX5_readsHabit_43 : decode cX5_readsHabit 43 = .ok (.aload_n 0, 1) := by decide +kernel
theorem dX5_readsHabit_44 : decode cX5_readsHabit 44 = .ok (.getfield 155, 3) := by decide +kernel
theorem dX5_readsHabit_47 : decode cX5_readsHabit 47 = .ok (.putfield 174, 3) := by decide +kernel
theorem dX5_readsHabit_50 : decode cX5_readsHabit 50 = .ok (.iload_n 1, 1) := by decide +kernel
theorem dX5_readsHabit_51 : decode cX5_readsHabit 51 = .ok (.ifCond .eq 41, 3) := by decide +kernel
theorem dX5_readsHabit_54 : decode cX5_readsHabit 54 = .ok (.aload_n 0, 1) := by decide +kernel
theorem dX5_readsHabit_55 : decode cX5_readsHabit 55 = .ok (.bipush 61, 2) := by decide +kernel
theorem dX5_readsHabit_57 : decode cX5_readsHabit 57 = .ok (.invokevirtual 171, 3) := by decide +kernel
theorem dX5_readsHabit_60 : decode cX5_readsHabit 60 = .ok (.ifCond .eq 32, 3) := by decide +kernel
theorem dX5_readsHabit_63 : decode cX5_readsHabit 63 = .ok (.aload_n 0, 1) := by decide +kernel
theorem dX5_readsHabit_64 : decode cX5_readsHabit 64 = .ok (.invokevirtual 177, 3) := by decide +kernel
theorem dX5_readsHabit_67 : decode cX5_readsHabit 67 = .ok (.ifCond .eq 25, 3) := by decide +kernel
theorem dX5_readsHabit_70 : decode cX5_readsHabit 70 = .ok (.aload_n 0, 1) := by decide +kernel
theorem dX5_readsHabit_71 : decode cX5_readsHabit 71 = .ok (.bipush 42, 2) := by decide +kernel
theorem dX5_readsHabit_73 : decode cX5_readsHabit 73 = .ok (.invokevirtual 171, 3) := by decide +kernel
theorem dX5_readsHabit_76 : decode cX5_readsHabit 76 = .ok (.ifCond .eq 16, 3) := by decide +kernel
theorem dX5_readsHabit_79 : decode cX5_readsHabit 79 = .ok (.aload_n 0, 1) := by decide +kernel
theorem dX5_readsHabit_80 : decode cX5_readsHabit 80 = .ok (.bipush 9, 2) := by decide +kernel
theorem dX5_readsHabit_82 : decode cX5_readsHabit 82 = .ok (.invokevirtual 165, 3) := by decide +kernel
theorem dX5_readsHabit_85 : decode cX5_readsHabit 85 = .ok (.ifCond .eq 7, 3) := by decide +kernel
theorem dX5_readsHabit_88 : decode cX5_readsHabit 88 = .ok (.iconst 1, 1) := by decide +kernel
theorem dX5_readsHabit_89 : decode cX5_readsHabit 89 = .ok (.goto 4, 3) := by decide +kernel
theorem dX5_readsHabit_92 : decode cX5_readsHabit 92 = .ok (.iconst 0, 1) := by decide +kernel
theorem dX5_readsHabit_93 : decode cX5_readsHabit 93 = .ok (.istore_n 1, 1) := by decide +kernel
theorem dX5_readsHabit_94 : decode cX5_readsHabit 94 = .ok (.iload_n 1, 1) := by decide +kernel
theorem dX5_readsHabit_95 : decode cX5_readsHabit 95 = .ok (.ifCond .ne 5, 3) := by decide +kernel
theorem dX5_readsHabit_98 : decode cX5_readsHabit 98 = .ok (.iconst 0, 1) := by decide +kernel
theorem dX5_readsHabit_99 : decode cX5_readsHabit 99 = .ok (.ireturn, 1) := by decide +kernel
theorem dX5_readsHabit_100 : decode cX5_readsHabit 100 = .ok (.aload_n 0, 1) := by decide +kernel
theorem dX5_readsHabit_101 : decode cX5_readsHabit 101 = .ok (.getfield 155, 3) := by decide +kernel
theorem dX5_readsHabit_104 : decode cX5_readsHabit 104 = .ok (.ifCond .le 54, 3) := by decide +kernel
theorem dX5_readsHabit_107 : decode cX5_readsHabit 107 = .ok (.aload_n 0, 1) := by decide +kernel
theorem dX5_readsHabit_108 : decode cX5_readsHabit 108 = .ok (.aload_n 0, 1) := by decide +kernel
theorem dX5_readsHabit_109 : decode cX5_readsHabit 109 = .ok (.getfield 149, 3) := by decide +kernel
theorem dX5_readsHabit_112 : decode cX5_readsHabit 112 = .ok (.invokevirtual 152, 3) := by decide +kernel
theorem dX5_readsHabit_115 : decode cX5_readsHabit 115 = .ok (.bipush 48, 2) := by decide +kernel
theorem dX5_readsHabit_117 : decode cX5_readsHabit 117 = .ok (.bipush 57, 2) := by decide +kernel
theorem dX5_readsHabit_119 : decode cX5_readsHabit 119 = .ok (.invokestatic 30, 3) := by decide +kernel
theorem dX5_readsHabit_122 : decode cX5_readsHabit 122 = .ok (.ifCond .eq 36, 3) := by decide +kernel
theorem dX5_readsHabit_125 : decode cX5_readsHabit 125 = .ok (.aload_n 0, 1) := by decide +kernel
theorem dX5_readsHabit_126 : decode cX5_readsHabit 126 = .ok (.bipush 10, 2) := by decide +kernel
theorem dX5_readsHabit_128 : decode cX5_readsHabit 128 = .ok (.aload_n 0, 1) := by decide +kernel
theorem dX5_readsHabit_129 : decode cX5_readsHabit 129 = .ok (.getfield 155, 3) := by decide +kernel
theorem dX5_readsHabit_132 : decode cX5_readsHabit 132 = .ok (.imul, 1) := by decide +kernel
theorem dX5_readsHabit_133 : decode cX5_readsHabit 133 = .ok (.aload_n 0, 1) := by decide +kernel
theorem dX5_readsHabit_134 : decode cX5_readsHabit 134 = .ok (.aload_n 0, 1) := by decide +kernel
theorem dX5_readsHabit_135 : decode cX5_readsHabit 135 = .ok (.getfield 149, 3) := by decide +kernel
theorem dX5_readsHabit_138 : decode cX5_readsHabit 138 = .ok (.invokevirtual 152, 3) := by decide +kernel
theorem dX5_readsHabit_141 : decode cX5_readsHabit 141 = .ok (.iadd, 1) := by decide +kernel
theorem dX5_readsHabit_142 : decode cX5_readsHabit 142 = .ok (.bipush 48, 2) := by decide +kernel
theorem dX5_readsHabit_144 : decode cX5_readsHabit 144 = .ok (.isub, 1) := by decide +kernel
theorem dX5_readsHabit_145 : decode cX5_readsHabit 145 = .ok (.putfield 155, 3) := by decide +kernel
theorem dX5_readsHabit_148 : decode cX5_readsHabit 148 = .ok (.aload_n 0, 1) := by decide +kernel
theorem dX5_readsHabit_149 : decode cX5_readsHabit 149 = .ok (.dup, 1) := by decide +kernel
theorem dX5_readsHabit_150 : decode cX5_readsHabit 150 = .ok (.getfield 149, 3) := by decide +kernel
theorem dX5_readsHabit_153 : decode cX5_readsHabit 153 = .ok (.iconst 1, 1) := by decide +kernel
theorem dX5_readsHabit_154 : decode cX5_readsHabit 154 = .ok (.iadd, 1) := by decide +kernel
theorem dX5_readsHabit_155 : decode cX5_readsHabit 155 = .ok (.putfield 149, 3) := by decide +kernel
theorem dX5_readsHabit_158 : decode cX5_readsHabit 158 = .ok (.iconst 1, 1) := by decide +kernel
theorem dX5_readsHabit_159 : decode cX5_readsHabit 159 = .ok (.ireturn, 1) := by decide +kernel
theorem dX5_findError_0 : decode cX5_findError 0 = .ok (.aload_n 0, 1) := by decide +kernel
theorem dX5_findError_1 : decode cX5_findError 1 = .ok (.iconst 0, 1) := by decide +kernel
theorem dX5_findError_2 : decode cX5_findError 2 = .ok (.putfield 149, 3) := by decide +kernel
theorem dX5_findError_5 : decode cX5_findError 5 = .ok (.aload_n 0, 1) := by decide +kernel
theorem dX5_findError_6 : decode cX5_findError 6 = .ok (.invokevirtual 180, 3) := by decide +kernel
theorem dX5_findError_9 : decode cX5_findError 9 = .ok (.ifCond .ne 8, 3) := by decide +kernel
theorem dX5_findError_12 : decode cX5_findError 12 = .ok (.aload_n 0, 1) := by decide +kernel
theorem dX5_findError_13 : decode cX5_findError 13 = .ok (.getfield 149, 3) := by decide +kernel
theorem dX5_findError_16 : decode cX5_findError 16 = .ok (.ireturn, 1) := by decide +kernel
theorem dX5_findError_17 : decode cX5_findError 17 = .ok (.aload_n 0, 1) := by decide +kernel
theorem dX5_findError_18 : decode cX5_findError 18 = .ok (.getfield 149, 3) := by decide +kernel
theorem dX5_findError_21 : decode cX5_findError 21 = .ok (.aload_n 0, 1) := by decide +kernel
theorem dX5_findError_22 : decode cX5_findError 22 = .ok (.getfield 146, 3) := by decide +kernel
theorem dX5_findError_25 : decode cX5_findError 25 = .ok (.if_icmp .ne 6, 3) := by decide +kernel
theorem dX5_findError_28 : decode cX5_findError 28 = .ok (.bipush (-6), 2) := by decide +kernel
theorem dX5_findError_30 : decode cX5_findError 30 = .ok (.ireturn, 1) := by decide +kernel
theorem dX5_findError_31 : decode cX5_findError 31 = .ok (.aload_n 0, 1) := by decide +kernel
theorem dX5_findError_32 : decode cX5_findError 32 = .ok (.bipush 59, 2) := by decide +kernel
theorem dX5_findError_34 : decode cX5_findError 34 = .ok (.invokevirtual 171, 3) := by decide +kernel
theorem dX5_findError_37 : decode cX5_findError 37 = .ok (.ifCond .ne (-32), 3) := by decide +kernel
theorem dX5_findError_40 : decode cX5_findError 40 = .ok (.aload_n 0, 1) := by decide +kernel
theorem dX5_findError_41 : decode cX5_findError 41 = .ok (.getfield 149, 3) := by decide +kernel
theorem dX5_findError_44 : decode cX5_findError 44 = .ok (.ireturn, 1) := by decide +kernel
theorem dX5_syntaxError_0 : decode cX5_syntaxError 0 = .ok (.aload_n 0, 1) := by decide +kernel
theorem dX5_syntaxError_1 : decode cX5_syntaxError 1 = .ok (.invokevirtual 183, 3) := by decide +kernel
theorem dX5_syntaxError_4 : decode cX5_syntaxError 4 = .ok (.ireturn, 1) := by decide +kernel
theorem dX5_learn_0 : decode cX5_learn 0 = .ok (.aload_n 0, 1) := by decide +kernel
theorem dX5_learn_1 : decode cX5_learn 1 = .ok (.invokevirtual 183, 3) := by decide +kernel
theorem dX5_learn_4 : decode cX5_learn 4 = .ok (.bipush (-6), 2) := by decide +kernel
theorem dX5_learn_6 : decode cX5_learn 6 = .ok (.if_icmp .eq 6, 3) := by decide +kernel
theorem dX5_learn_9 : decode cX5_learn 9 = .ok (.bipush (-5), 2) := by decide +kernel
theorem dX5_learn_11 : decode cX5_learn 11 = .ok (.ireturn, 1) := by decide +kernel
theorem dX5_learn_12 : decode cX5_learn 12 = .ok (.aload_n 0, 1) := by decide +kernel
theorem dX5_learn_13 : decode cX5_learn 13 = .ok (.invokevirtual 86, 3) := by decide +kernel
theorem dX5_learn_16 : decode cX5_learn 16 = .ok (.iconst 0, 1) := by decide +kernel
theorem dX5_learn_17 : decode cX5_learn 17 = .ok (.istore_n 1, 1) := by decide +kernel
theorem dX5_learn_18 : decode cX5_learn 18 = .ok (.aload_n 0, 1) := by decide +kernel
theorem dX5_learn_19 : decode cX5_learn 19 = .ok (.iconst 0, 1) := by decide +kernel
theorem dX5_learn_20 : decode cX5_learn 20 = .ok (.putfield 149, 3) := by decide +kernel
theorem dX5_learn_23 : decode cX5_learn 23 = .ok (.iconst 1, 1) := by decide +kernel
theorem dX5_learn_24 : decode cX5_learn 24 = .ok (.istore_n 2, 1) := by decide +kernel
theorem dX5_learn_25 : decode cX5_learn 25 = .ok (.iload_n 2, 1) := by decide +kernel
theorem dX5_learn_26 : decode cX5_learn 26 = .ok (.ifCond .eq 69, 3) := by decide +kernel
theorem dX5_learn_29 : decode cX5_learn 29 = .ok (.aload_n 0, 1) := by decide +kernel
theorem dX5_learn_30 : decode cX5_learn 30 = .ok (.getfield 149, 3) := by decide +kernel
theorem dX5_learn_33 : decode cX5_learn 33 = .ok (.aload_n 0, 1) := by decide +kernel
theorem dX5_learn_34 : decode cX5_learn 34 = .ok (.getfield 146, 3) := by decide +kernel
theorem dX5_learn_37 : decode cX5_learn 37 = .ok (.if_icmp .ge 58, 3) := by decide +kernel
theorem dX5_learn_40 : decode cX5_learn 40 = .ok (.aload_n 0, 1) := by decide +kernel
theorem dX5_learn_41 : decode cX5_learn 41 = .ok (.invokevirtual 180, 3) := by decide +kernel
theorem dX5_learn_44 : decode cX5_learn 44 = .ok (.pop, 1) := by decide +kernel
theorem dX5_learn_45 : decode cX5_learn 45 = .ok (.aload_n 0, 1) := by decide +kernel
theorem dX5_learn_46 : decode cX5_learn 46 = .ok (.bipush 59, 2) := by decide +kernel
theorem dX5_learn_48 : decode cX5_learn 48 = .ok (.invokevirtual 171, 3) := by decide +kernel
theorem dX5_learn_51 : decode cX5_learn 51 = .ok (.pop, 1) := by decide +kernel
theorem dX5_learn_52 : decode cX5_learn 52 = .ok (.aload_n 0, 1) := by decide +kernel
theorem dX5_learn_53 : decode cX5_learn 53 = .ok (.aload_n 0, 1) := by decide +kernel
theorem dX5_learn_54 : decode cX5_learn 54 = .ok (.getfield 168, 3) := by decide +kernel
theorem dX5_learn_57 : decode cX5_learn 57 = .ok (.invokevirtual 45, 3) := by decide +kernel
theorem dX5_learn_60 : decode cX5_learn 60 = .ok (.istore_n 2, 1) := by decide +kernel
theorem dX5_learn_61 : decode cX5_learn 61 = .ok (.iload_n 2, 1) := by decide +kernel
theorem dX5_learn_62 : decode cX5_learn 62 = .ok (.ifCond .eq (-37), 3) := by decide +kernel
theorem dX5_learn_65 : decode cX5_learn 65 = .ok (.aload_n 0, 1) := by decide +kernel
theorem dX5_learn_66 : decode cX5_learn 66 = .ok (.getfield 7, 3) := by decide +kernel
theorem dX5_learn_69 : decode cX5_learn 69 = .ok (.aload_n 0, 1) := by decide +kernel
theorem dX5_learn_70 : decode cX5_learn 70 = .ok (.getfield 168, 3) := by decide +kernel
theorem dX5_learn_73 : decode cX5_learn 73 = .ok (.aload_n 0, 1) := by decide +kernel
theorem dX5_learn_74 : decode cX5_learn 74 = .ok (.getfield 174, 3) := by decide +kernel
theorem dX5_learn_77 : decode cX5_learn 77 = .ok (.aload_n 0, 1) := by decide +kernel
theorem dX5_learn_78 : decode cX5_learn 78 = .ok (.getfield 162, 3) := by decide +kernel
theorem dX5_learn_81 : decode cX5_learn 81 = .ok (.invokestatic 38, 3) := by decide +kernel
theorem dX5_learn_84 : decode cX5_learn 84 = .ok (.aload_n 0, 1) := by decide +kernel
theorem dX5_learn_85 : decode cX5_learn 85 = .ok (.getfield 155, 3) := by decide +kernel
theorem dX5_learn_88 : decode cX5_learn 88 = .ok (.iastore, 1) := by decide +kernel
theorem dX5_learn_89 : decode cX5_learn 89 = .ok (.iinc 1 1, 3) := by decide +kernel
theorem dX5_learn_92 : decode cX5_learn 92 = .ok (.goto (-67), 3) := by decide +kernel
theorem dX5_learn_95 : decode cX5_learn 95 = .ok (.aload_n 0, 1) := by decide +kernel
theorem dX5_learn_96 : decode cX5_learn 96 = .ok (.iconst 0, 1) := by decide +kernel
theorem dX5_learn_97 : decode cX5_learn 97 = .ok (.putfield 146, 3) := by decide +kernel
theorem dX5_learn_100 : decode cX5_learn 100 = .ok (.iload_n 1, 1) := by decide +kernel
theorem dX5_learn_101 : decode cX5_learn 101 = .ok (.ireturn, 1) := by decide +kernel
theorem dX5_undo_0 : decode cX5_undo 0 = .ok (.aload_n 0, 1) := by decide +kernel
theorem dX5_undo_1 : decode cX5_undo 1 = .ok (.getfield 22, 3) := by decide +kernel
theorem dX5_undo_4 : decode cX5_undo 4 = .ok (.ifCond .ne 6, 3) := by decide +kernel
theorem dX5_undo_7 : decode cX5_undo 7 = .ok (.bipush (-3), 2) := by decide +kernel
theorem dX5_undo_9 : decode cX5_undo 9 = .ok (.ireturn, 1) := by decide +kernel
theorem dX5_undo_10 : decode cX5_undo 10 = .ok (.aload_n 0, 1) := by decide +kernel
theorem dX5_undo_11 : decode cX5_undo 11 = .ok (.dup, 1) := by decide +kernel
theorem dX5_undo_12 : decode cX5_undo 12 = .ok (.getfield 22, 3) := by decide +kernel
theorem dX5_undo_15 : decode cX5_undo 15 = .ok (.iconst 1, 1) := by decide +kernel
theorem dX5_undo_16 : decode cX5_undo 16 = .ok (.isub, 1) := by decide +kernel
theorem dX5_undo_17 : decode cX5_undo 17 = .ok (.putfield 22, 3) := by decide +kernel
theorem dX5_undo_20 : decode cX5_undo 20 = .ok (.aload_n 0, 1) := by decide +kernel
theorem dX5_undo_21 : decode cX5_undo 21 = .ok (.getfield 16, 3) := by decide +kernel
theorem dX5_undo_24 : decode cX5_undo 24 = .ok (.aload_n 0, 1) := by decide +kernel
theorem dX5_undo_25 : decode cX5_undo 25 = .ok (.getfield 22, 3) := by decide +kernel
theorem dX5_undo_28 : decode cX5_undo 28 = .ok (.sipush 705, 3) := by decide +kernel
theorem dX5_undo_31 : decode cX5_undo 31 = .ok (.imul, 1) := by decide +kernel
theorem dX5_undo_32 : decode cX5_undo 32 = .ok (.aload_n 0, 1) := by decide +kernel
theorem dX5_undo_33 : decode cX5_undo 33 = .ok (.getfield 7, 3) := by decide +kernel
theorem dX5_undo_36 : decode cX5_undo 36 = .ok (.iconst 0, 1) := by decide +kernel
theorem dX5_undo_37 : decode cX5_undo 37 = .ok (.invokestatic 26, 3) := by decide +kernel
theorem dX5_undo_40 : decode cX5_undo 40 = .ok (.aload_n 0, 1) := by decide +kernel
theorem dX5_undo_41 : decode cX5_undo 41 = .ok (.getfield 22, 3) := by decide +kernel
theorem dX5_undo_44 : decode cX5_undo 44 = .ok (.ireturn, 1) := by decide +kernel
theorem dX5_digest_0 : decode cX5_digest 0 = .ok (.ldc2_w 186, 3) := by decide +kernel
theorem dX5_digest_3 : decode cX5_digest 3 = .ok (.lstore_n 1, 1) := by decide +kernel
theorem dX5_digest_4 : decode cX5_digest 4 = .ok (.iconst 0, 1) := by decide +kernel
theorem dX5_digest_5 : decode cX5_digest 5 = .ok (.istore_n 3, 1) := by decide +kernel
theorem dX5_digest_6 : decode cX5_digest 6 = .ok (.iload_n 3, 1) := by decide +kernel
theorem dX5_digest_7 : decode cX5_digest 7 = .ok (.bipush 6, 2) := by decide +kernel
theorem dX5_digest_9 : decode cX5_digest 9 = .ok (.if_icmp .gt 22, 3) := by decide +kernel
theorem dX5_digest_12 : decode cX5_digest 12 = .ok (.ldc2_w 188, 3) := by decide +kernel
theorem dX5_digest_15 : decode cX5_digest 15 = .ok (.lload_n 1, 1) := by decide +kernel
theorem dX5_digest_16 : decode cX5_digest 16 = .ok (.lmul, 1) := by decide +kernel
theorem dX5_digest_17 : decode cX5_digest 17 = .ok (.aload_n 0, 1) := by decide +kernel
theorem dX5_digest_18 : decode cX5_digest 18 = .ok (.iload_n 3, 1) := by decide +kernel
theorem dX5_digest_19 : decode cX5_digest 19 = .ok (.invokevirtual 125, 3) := by decide +kernel
theorem dX5_digest_22 : decode cX5_digest 22 = .ok (.i2l, 1) := by decide +kernel
theorem dX5_digest_23 : decode cX5_digest 23 = .ok (.ladd, 1) := by decide +kernel
theorem dX5_digest_24 : decode cX5_digest 24 = .ok (.lstore_n 1, 1) := by decide +kernel
theorem dX5_digest_25 : decode cX5_digest 25 = .ok (.iinc 3 1, 3) := by decide +kernel
theorem dX5_digest_28 : decode cX5_digest 28 = .ok (.goto (-22), 3) := by decide +kernel
theorem dX5_digest_31 : decode cX5_digest 31 = .ok (.iconst 0, 1) := by decide +kernel
theorem dX5_digest_32 : decode cX5_digest 32 = .ok (.istore_n 3, 1) := by decide +kernel
theorem dX5_digest_33 : decode cX5_digest 33 = .ok (.iload_n 3, 1) := by decide +kernel
theorem dX5_digest_34 : decode cX5_digest 34 = .ok (.iconst 4, 1) := by decide +kernel
theorem dX5_digest_35 : decode cX5_digest 35 = .ok (.if_icmp .ge 25, 3) := by decide +kernel
theorem dX5_digest_38 : decode cX5_digest 38 = .ok (.ldc2_w 188, 3) := by decide +kernel
theorem dX5_digest_41 : decode cX5_digest 41 = .ok (.lload_n 1, 1) := by decide +kernel
theorem dX5_digest_42 : decode cX5_digest 42 = .ok (.lmul, 1) := by decide +kernel
theorem dX5_digest_43 : decode cX5_digest 43 = .ok (.aload_n 0, 1) := by decide +kernel
theorem dX5_digest_44 : decode cX5_digest 44 = .ok (.getfield 7, 3) := by decide +kernel
theorem dX5_digest_47 : decode cX5_digest 47 = .ok (.iconst 5, 1) := by decide +kernel
theorem dX5_digest_48 : decode cX5_digest 48 = .ok (.iload_n 3, 1) := by decide +kernel
theorem dX5_digest_49 : decode cX5_digest 49 = .ok (.iadd, 1) := by decide +kernel
theorem dX5_digest_50 : decode cX5_digest 50 = .ok (.iaload, 1) := by decide +kernel
theorem dX5_digest_51 : decode cX5_digest 51 = .ok (.i2l, 1) := by decide +kernel
theorem dX5_digest_52 : decode cX5_digest 52 = .ok (.ladd, 1) := by decide +kernel
theorem dX5_digest_53 : decode cX5_digest 53 = .ok (.lstore_n 1, 1) := by decide +kernel
theorem dX5_digest_54 : decode cX5_digest 54 = .ok (.iinc 3 1, 3) := by decide +kernel
theorem dX5_digest_57 : decode cX5_digest 57 = .ok (.goto (-24), 3) := by decide +kernel
theorem dX5_digest_60 : decode cX5_digest 60 = .ok (.iconst 0, 1) := by decide +kernel
theorem dX5_digest_61 : decode cX5_digest 61 = .ok (.istore_n 3, 1) := by decide +kernel
theorem dX5_digest_62 : decode cX5_digest 62 = .ok (.iload_n 3, 1) := by decide +kernel
theorem dX5_digest_63 : decode cX5_digest 63 = .ok (.bipush 8, 2) := by decide +kernel
theorem dX5_digest_65 : decode cX5_digest 65 = .ok (.if_icmp .ge 87, 3) := by decide +kernel
theorem dX5_digest_68 : decode cX5_digest 68 = .ok (.aload_n 0, 1) := by decide +kernel
theorem dX5_digest_69 : decode cX5_digest 69 = .ok (.iload_n 3, 1) := by decide +kernel
theorem dX5_digest_70 : decode cX5_digest 70 = .ok (.invokevirtual 45, 3) := by decide +kernel
theorem dX5_digest_73 : decode cX5_digest 73 = .ok (.ifCond .eq 73, 3) := by decide +kernel
theorem dX5_digest_76 : decode cX5_digest 76 = .ok (.ldc2_w 188, 3) := by decide +kernel
theorem dX5_digest_79 : decode cX5_digest 79 = .ok (.lload_n 1, 1) := by decide +kernel
theorem dX5_digest_80 : decode cX5_digest 80 = .ok (.lmul, 1) := by decide +kernel
theorem dX5_digest_81 : decode cX5_digest 81 = .ok (.iload_n 3, 1) := by decide +kernel
theorem dX5_digest_82 : decode cX5_digest 82 = .ok (.i2l, 1) := by decide +kernel
theorem dX5_digest_83 : decode cX5_digest 83 = .ok (.ladd, 1) := by decide +kernel
theorem dX5_digest_84 : decode cX5_digest 84 = .ok (.lstore_n 1, 1) := by decide +kernel
theorem dX5_digest_85 : decode cX5_digest 85 = .ok (.iconst 0, 1) := by decide +kernel
theorem dX5_digest_86 : decode cX5_digest 86 = .ok (.istore 4, 2) := by decide +kernel
theorem dX5_digest_88 : decode cX5_digest 88 = .ok (.iload 4, 2) := by decide +kernel
theorem dX5_digest_90 : decode cX5_digest 90 = .ok (.iconst 4, 1) := by decide +kernel
theorem dX5_digest_91 : decode cX5_digest 91 = .ok (.if_icmp .gt 24, 3) := by decide +kernel
theorem dX5_digest_94 : decode cX5_digest 94 = .ok (.ldc2_w 188, 3) := by decide +kernel
theorem dX5_digest_97 : decode cX5_digest 97 = .ok (.lload_n 1, 1) := by decide +kernel
theorem dX5_digest_98 : decode cX5_digest 98 = .ok (.lmul, 1) := by decide +kernel
theorem dX5_digest_99 : decode cX5_digest 99 = .ok (.aload_n 0, 1) := by decide +kernel
theorem dX5_digest_100 : decode cX5_digest 100 = .ok (.iload_n 3, 1) := by decide +kernel
theorem dX5_digest_101 : decode cX5_digest 101 = .ok (.iload 4, 2) := by decide +kernel
theorem dX5_digest_103 : decode cX5_digest 103 = .ok (.invokevirtual 134, 3) := by decide +kernel
theorem dX5_digest_106 : decode cX5_digest 106 = .ok (.i2l, 1) := by decide +kernel
theorem dX5_digest_107 : decode cX5_digest 107 = .ok (.ladd, 1) := by decide +kernel
theorem dX5_digest_108 : decode cX5_digest 108 = .ok (.lstore_n 1, 1) := by decide +kernel
theorem dX5_digest_109 : decode cX5_digest 109 = .ok (.iinc 4 1, 3) := by decide +kernel
theorem dX5_digest_112 : decode cX5_digest 112 = .ok (.goto (-24), 3) := by decide +kernel
theorem dX5_digest_115 : decode cX5_digest 115 = .ok (.iconst 0, 1) := by decide +kernel
theorem dX5_digest_116 : decode cX5_digest 116 = .ok (.istore 4, 2) := by decide +kernel
theorem dX5_digest_118 : decode cX5_digest 118 = .ok (.iload 4, 2) := by decide +kernel
theorem dX5_digest_120 : decode cX5_digest 120 = .ok (.bipush 6, 2) := by decide +kernel
theorem dX5_digest_122 : decode cX5_digest 122 = .ok (.if_icmp .ge 24, 3) := by decide +kernel
theorem dX5_digest_125 : decode cX5_digest 125 = .ok (.ldc2_w 188, 3) := by decide +kernel
theorem dX5_digest_128 : decode cX5_digest 128 = .ok (.lload_n 1, 1) := by decide +kernel
theorem dX5_digest_129 : decode cX5_digest 129 = .ok (.lmul, 1) := by decide +kernel
theorem dX5_digest_130 : decode cX5_digest 130 = .ok (.aload_n 0, 1) := by decide +kernel
theorem dX5_digest_131 : decode cX5_digest 131 = .ok (.iload_n 3, 1) := by decide +kernel
theorem dX5_digest_132 : decode cX5_digest 132 = .ok (.iload 4, 2) := by decide +kernel
theorem dX5_digest_134 : decode cX5_digest 134 = .ok (.invokevirtual 58, 3) := by decide +kernel
theorem dX5_digest_137 : decode cX5_digest 137 = .ok (.i2l, 1) := by decide +kernel
theorem dX5_digest_138 : decode cX5_digest 138 = .ok (.ladd, 1) := by decide +kernel
theorem dX5_digest_139 : decode cX5_digest 139 = .ok (.lstore_n 1, 1) := by decide +kernel
theorem dX5_digest_140 : decode cX5_digest 140 = .ok (.iinc 4 1, 3) := by decide +kernel
theorem dX5_digest_143 : decode cX5_digest 143 = .ok (.goto (-25), 3) := by decide +kernel
theorem dX5_digest_146 : decode cX5_digest 146 = .ok (.iinc 3 1, 3) := by decide +kernel
theorem dX5_digest_149 : decode cX5_digest 149 = .ok (.goto (-87), 3) := by decide +kernel
theorem dX5_digest_152 : decode cX5_digest 152 = .ok (.iconst 0, 1) := by decide +kernel
theorem dX5_digest_153 : decode cX5_digest 153 = .ok (.istore_n 3, 1) := by decide +kernel
theorem dX5_digest_154 : decode cX5_digest 154 = .ok (.iload_n 3, 1) := by decide +kernel
theorem dX5_digest_155 : decode cX5_digest 155 = .ok (.bipush 6, 2) := by decide +kernel
theorem dX5_digest_157 : decode cX5_digest 157 = .ok (.if_icmp .ge 22, 3) := by decide +kernel
theorem dX5_digest_160 : decode cX5_digest 160 = .ok (.ldc2_w 188, 3) := by decide +kernel
theorem dX5_digest_163 : decode cX5_digest 163 = .ok (.lload_n 1, 1) := by decide +kernel
theorem dX5_digest_164 : decode cX5_digest 164 = .ok (.lmul, 1) := by decide +kernel
theorem dX5_digest_165 : decode cX5_digest 165 = .ok (.aload_n 0, 1) := by decide +kernel
theorem dX5_digest_166 : decode cX5_digest 166 = .ok (.iload_n 3, 1) := by decide +kernel
theorem dX5_digest_167 : decode cX5_digest 167 = .ok (.invokevirtual 143, 3) := by decide +kernel
theorem dX5_digest_170 : decode cX5_digest 170 = .ok (.i2l, 1) := by decide +kernel
theorem dX5_digest_171 : decode cX5_digest 171 = .ok (.ladd, 1) := by decide +kernel
theorem dX5_digest_172 : decode cX5_digest 172 = .ok (.lstore_n 1, 1) := by decide +kernel
theorem dX5_digest_173 : decode cX5_digest 173 = .ok (.iinc 3 1, 3) := by decide +kernel
theorem dX5_digest_176 : decode cX5_digest 176 = .ok (.goto (-22), 3) := by decide +kernel
theorem dX5_digest_179 : decode cX5_digest 179 = .ok (.iconst 0, 1) := by decide +kernel
theorem dX5_digest_180 : decode cX5_digest 180 = .ok (.istore_n 3, 1) := by decide +kernel
theorem dX5_digest_181 : decode cX5_digest 181 = .ok (.iload_n 3, 1) := by decide +kernel
theorem dX5_digest_182 : decode cX5_digest 182 = .ok (.bipush 8, 2) := by decide +kernel
theorem dX5_digest_184 : decode cX5_digest 184 = .ok (.if_icmp .ge 74, 3) := by decide +kernel
theorem dX5_digest_187 : decode cX5_digest 187 = .ok (.iload_n 3, 1) := by decide +kernel
theorem dX5_digest_188 : decode cX5_digest 188 = .ok (.iconst 1, 1) := by decide +kernel
theorem dX5_digest_189 : decode cX5_digest 189 = .ok (.iadd, 1) := by decide +kernel
theorem dX5_digest_190 : decode cX5_digest 190 = .ok (.istore 4, 2) := by decide +kernel
theorem dX5_digest_192 : decode cX5_digest 192 = .ok (.iload 4, 2) := by decide +kernel
theorem dX5_digest_194 : decode cX5_digest 194 = .ok (.bipush 8, 2) := by decide +kernel
theorem dX5_digest_196 : decode cX5_digest 196 = .ok (.if_icmp .ge 56, 3) := by decide +kernel
theorem dX5_digest_199 : decode cX5_digest 199 = .ok (.aload_n 0, 1) := by decide +kernel
theorem dX5_digest_200 : decode cX5_digest 200 = .ok (.iload_n 3, 1) := by decide +kernel
theorem dX5_digest_201 : decode cX5_digest 201 = .ok (.invokevirtual 45, 3) := by decide +kernel
theorem dX5_digest_204 : decode cX5_digest 204 = .ok (.ifCond .eq 42, 3) := by decide +kernel
theorem dX5_digest_207 : decode cX5_digest 207 = .ok (.aload_n 0, 1) := by decide +kernel
theorem dX5_digest_208 : decode cX5_digest 208 = .ok (.iload 4, 2) := by decide +kernel
theorem dX5_digest_210 : decode cX5_digest 210 = .ok (.invokevirtual 45, 3) := by decide +kernel
theorem dX5_digest_213 : decode cX5_digest 213 = .ok (.ifCond .eq 33, 3) := by decide +kernel
theorem dX5_digest_216 : decode cX5_digest 216 = .ok (.ldc2_w 188, 3) := by decide +kernel
theorem dX5_digest_219 : decode cX5_digest 219 = .ok (.lload_n 1, 1) := by decide +kernel
theorem dX5_digest_220 : decode cX5_digest 220 = .ok (.lmul, 1) := by decide +kernel
theorem dX5_digest_221 : decode cX5_digest 221 = .ok (.aload_n 0, 1) := by decide +kernel
theorem dX5_digest_222 : decode cX5_digest 222 = .ok (.iload_n 3, 1) := by decide +kernel
theorem dX5_digest_223 : decode cX5_digest 223 = .ok (.iload 4, 2) := by decide +kernel
theorem dX5_digest_225 : decode cX5_digest 225 = .ok (.invokevirtual 137, 3) := by decide +kernel
theorem dX5_digest_228 : decode cX5_digest 228 = .ok (.i2l, 1) := by decide +kernel
theorem dX5_digest_229 : decode cX5_digest 229 = .ok (.ladd, 1) := by decide +kernel
theorem dX5_digest_230 : decode cX5_digest 230 = .ok (.lstore_n 1, 1) := by decide +kernel
theorem dX5_digest_231 : decode cX5_digest 231 = .ok (.ldc2_w 188, 3) := by decide +kernel
theorem dX5_digest_234 : decode cX5_digest 234 = .ok (.lload_n 1, 1) := by decide +kernel
theorem dX5_digest_235 : decode cX5_digest 235 = .ok (.lmul, 1) := by decide +kernel
theorem dX5_digest_236 : decode cX5_digest 236 = .ok (.aload_n 0, 1) := by decide +kernel
theorem dX5_digest_237 : decode cX5_digest 237 = .ok (.iload_n 3, 1) := by decide +kernel
theorem dX5_digest_238 : decode cX5_digest 238 = .ok (.iload 4, 2) := by decide +kernel
theorem dX5_digest_240 : decode cX5_digest 240 = .ok (.invokevirtual 140, 3) := by decide +kernel
theorem dX5_digest_243 : decode cX5_digest 243 = .ok (.i2l, 1) := by decide +kernel
theorem dX5_digest_244 : decode cX5_digest 244 = .ok (.ladd, 1) := by decide +kernel
theorem dX5_digest_245 : decode cX5_digest 245 = .ok (.lstore_n 1, 1) := by decide +kernel
theorem dX5_digest_246 : decode cX5_digest 246 = .ok (.iinc 4 1, 3) := by decide +kernel
theorem dX5_digest_249 : decode cX5_digest 249 = .ok (.goto (-57), 3) := by decide +kernel
theorem dX5_digest_252 : decode cX5_digest 252 = .ok (.iinc 3 1, 3) := by decide +kernel
theorem dX5_digest_255 : decode cX5_digest 255 = .ok (.goto (-74), 3) := by decide +kernel
theorem dX5_digest_258 : decode cX5_digest 258 = .ok (.lload_n 1, 1) := by decide +kernel
theorem dX5_digest_259 : decode cX5_digest 259 = .ok (.lreturn, 1) := by decide +kernel
theorem dL_law_0 : decode cL_law 0 = .ok (.new 7, 3) := by decide +kernel
theorem dL_law_3 : decode cL_law 3 = .ok (.dup, 1) := by decide +kernel
theorem dL_law_4 : decode cL_law 4 = .ok (.invokespecial 9, 3) := by decide +kernel
theorem dL_law_7 : decode cL_law 7 = .ok (.astore_n 1, 1) := by decide +kernel
theorem dL_law_8 : decode cL_law 8 = .ok (.new 10, 3) := by decide +kernel
theorem dL_law_11 : decode cL_law 11 = .ok (.dup, 1) := by decide +kernel
theorem dL_law_12 : decode cL_law 12 = .ok (.invokespecial 12, 3) := by decide +kernel
theorem dL_law_15 : decode cL_law 15 = .ok (.astore_n 2, 1) := by decide +kernel
theorem dL_law_16 : decode cL_law 16 = .ok (.iconst 0, 1) := by decide +kernel
theorem dL_law_17 : decode cL_law 17 = .ok (.istore_n 3, 1) := by decide +kernel
theorem dL_law_18 : decode cL_law 18 = .ok (.iload_n 3, 1) := by decide +kernel
theorem dL_law_19 : decode cL_law 19 = .ok (.aload_n 0, 1) := by decide +kernel
theorem dL_law_20 : decode cL_law 20 = .ok (.arraylength, 1) := by decide +kernel
theorem dL_law_21 : decode cL_law 21 = .ok (.iconst 5, 1) := by decide +kernel
theorem dL_law_22 : decode cL_law 22 = .ok (.isub, 1) := by decide +kernel
theorem dL_law_23 : decode cL_law 23 = .ok (.if_icmp .gt 918, 3) := by decide +kernel
theorem dL_law_26 : decode cL_law 26 = .ok (.aload_n 0, 1) := by decide +kernel
theorem dL_law_27 : decode cL_law 27 = .ok (.iload_n 3, 1) := by decide +kernel
theorem dL_law_28 : decode cL_law 28 = .ok (.iaload, 1) := by decide +kernel
theorem dL_law_29 : decode cL_law 29 = .ok (.bipush 31, 2) := by decide +kernel
theorem dL_law_31 : decode cL_law 31 = .ok (.iand, 1) := by decide +kernel
theorem dL_law_32 : decode cL_law 32 = .ok (.tableswitch 903 0 27 #[128, 141, 164, 197, 220, 273, 306, 349, 372, 395, 418, 441, 484, 517, 550, 583, 616, 659, 692, 715, 768, 791, 814, 837, 850, 863, 876, 889], 128) := by decide +kernel
theorem dL_law_160 : decode cL_law 160 = .ok (.aload_n 1, 1) := by decide +kernel
theorem dL_law_161 : decode cL_law 161 = .ok (.invokevirtual 13, 3) := by decide +kernel
theorem dL_law_164 : decode cL_law 164 = .ok (.aload_n 2, 1) := by decide +kernel
theorem dL_law_165 : decode cL_law 165 = .ok (.invokevirtual 17, 3) := by decide +kernel
theorem dL_law_168 : decode cL_law 168 = .ok (.if_icmp .eq 767, 3) := by decide +kernel
theorem dL_law_171 : decode cL_law 171 = .ok (.iconst 0, 1) := by decide +kernel
theorem dL_law_172 : decode cL_law 172 = .ok (.ireturn, 1) := by decide +kernel
theorem dL_law_173 : decode cL_law 173 = .ok (.aload_n 1, 1) := by decide +kernel
theorem dL_law_174 : decode cL_law 174 = .ok (.aload_n 0, 1) := by decide +kernel
theorem dL_law_175 : decode cL_law 175 = .ok (.iload_n 3, 1) := by decide +kernel
theorem dL_law_176 : decode cL_law 176 = .ok (.iconst 1, 1) := by decide +kernel
theorem dL_law_177 : decode cL_law 177 = .ok (.iadd, 1) := by decide +kernel
theorem dL_law_178 : decode cL_law 178 = .ok (.iaload, 1) := by decide +kernel
theorem dL_law_179 : decode cL_law 179 = .ok (.invokevirtual 18, 3) := by decide +kernel
theorem dL_law_182 : decode cL_law 182 = .ok (.aload_n 2, 1) := by decide +kernel
theorem dL_law_183 : decode cL_law 183 = .ok (.aload_n 0, 1) := by decide +kernel
theorem dL_law_184 : decode cL_law 184 = .ok (.iload_n 3, 1) := by decide +kernel
theorem dL_law_185 : decode cL_law 185 = .ok (.iconst 1, 1) := by decide +kernel
theorem dL_law_186 : decode cL_law 186 = .ok (.iadd, 1) := by decide +kernel
theorem dL_law_187 : decode cL_law 187 = .ok (.iaload, 1) := by decide +kernel
theorem dL_law_188 : decode cL_law 188 = .ok (.invokevirtual 22, 3) := by decide +kernel
theorem dL_law_191 : decode cL_law 191 = .ok (.if_icmp .eq 744, 3) := by decide +kernel
theorem dL_law_194 : decode cL_law 194 = .ok (.iconst 0, 1) := by decide +kernel
theorem dL_law_195 : decode cL_law 195 = .ok (.ireturn, 1) := by decide +kernel
theorem dL_law_196 : decode cL_law 196 = .ok (.aload_n 1, 1) := by decide +kernel
theorem dL_law_197 : decode cL_law 197 = .ok (.aload_n 0, 1) := by decide +kernel
theorem dL_law_198 : decode cL_law 198 = .ok (.iload_n 3, 1) := by decide +kernel
theorem dL_law_199 : decode cL_law 199 = .ok (.iconst 1, 1) := by decide +kernel
theorem dL_law_200 : decode cL_law 200 = .ok (.iadd, 1) := by decide +kernel
theorem dL_law_201 : decode cL_law 201 = .ok (.iaload, 1) := by decide +kernel
theorem dL_law_202 : decode cL_law 202 = .ok (.aload_n 0, 1) := by decide +kernel
theorem dL_law_203 : decode cL_law 203 = .ok (.iload_n 3, 1) := by decide +kernel
theorem dL_law_204 : decode cL_law 204 = .ok (.iconst 2, 1) := by decide +kernel
theorem dL_law_205 : decode cL_law 205 = .ok (.iadd, 1) := by decide +kernel
theorem dL_law_206 : decode cL_law 206 = .ok (.iaload, 1) := by decide +kernel
theorem dL_law_207 : decode cL_law 207 = .ok (.invokevirtual 23, 3) := by decide +kernel
theorem dL_law_210 : decode cL_law 210 = .ok (.aload_n 2, 1) := by decide +kernel
theorem dL_law_211 : decode cL_law 211 = .ok (.aload_n 0, 1) := by decide +kernel
theorem dL_law_212 : decode cL_law 212 = .ok (.iload_n 3, 1) := by decide +kernel
theorem dL_law_213 : decode cL_law 213 = .ok (.iconst 1, 1) := by decide +kernel
theorem dL_law_214 : decode cL_law 214 = .ok (.iadd, 1) := by decide +kernel
theorem dL_law_215 : decode cL_law 215 = .ok (.iaload, 1) := by decide +kernel
theorem dL_law_216 : decode cL_law 216 = .ok (.aload_n 0, 1) := by decide +kernel
theorem dL_law_217 : decode cL_law 217 = .ok (.iload_n 3, 1) := by decide +kernel
theorem dL_law_218 : decode cL_law 218 = .ok (.iconst 2, 1) := by decide +kernel
theorem dL_law_219 : decode cL_law 219 = .ok (.iadd, 1) := by decide +kernel
theorem dL_law_220 : decode cL_law 220 = .ok (.iaload, 1) := by decide +kernel
theorem dL_law_221 : decode cL_law 221 = .ok (.invokevirtual 27, 3) := by decide +kernel
theorem dL_law_224 : decode cL_law 224 = .ok (.if_icmp .eq 711, 3) := by decide +kernel
theorem dL_law_227 : decode cL_law 227 = .ok (.iconst 0, 1) := by decide +kernel
theorem dL_law_228 : decode cL_law 228 = .ok (.ireturn, 1) := by decide +kernel
theorem dL_law_229 : decode cL_law 229 = .ok (.aload_n 1, 1) := by decide +kernel
theorem dL_law_230 : decode cL_law 230 = .ok (.aload_n 0, 1) := by decide +kernel
theorem dL_law_231 : decode cL_law 231 = .ok (.iload_n 3, 1) := by decide +kernel
theorem dL_law_232 : decode cL_law 232 = .ok (.iconst 1, 1) := by decide +kernel
theorem dL_law_233 : decode cL_law 233 = .ok (.iadd, 1) := by decide +kernel
theorem dL_law_234 : decode cL_law 234 = .ok (.iaload, 1) := by decide +kernel
theorem dL_law_235 : decode cL_law 235 = .ok (.invokevirtual 28, 3) := by decide +kernel
theorem dL_law_238 : decode cL_law 238 = .ok (.aload_n 2, 1) := by decide +kernel
theorem dL_law_239 : decode cL_law 239 = .ok (.aload_n 0, 1) := by decide +kernel
theorem dL_law_240 : decode cL_law 240 = .ok (.iload_n 3, 1) := by decide +kernel
theorem dL_law_241 : decode cL_law 241 = .ok (.iconst 1, 1) := by decide +kernel
theorem dL_law_242 : decode cL_law 242 = .ok (.iadd, 1) := by decide +kernel
theorem dL_law_243 : decode cL_law 243 = .ok (.iaload, 1) := by decide +kernel
theorem dL_law_244 : decode cL_law 244 = .ok (.invokevirtual 31, 3) := by decide +kernel
theorem dL_law_247 : decode cL_law 247 = .ok (.if_icmp .eq 688, 3) := by decide +kernel
theorem dL_law_250 : decode cL_law 250 = .ok (.iconst 0, 1) := by decide +kernel
theorem dL_law_251 : decode cL_law 251 = .ok (.ireturn, 1) := by decide +kernel
theorem dL_law_252 : decode cL_law 252 = .ok (.aload_n 1, 1) := by decide +kernel
theorem dL_law_253 : decode cL_law 253 = .ok (.aload_n 0, 1) := by decide +kernel
theorem dL_law_254 : decode cL_law 254 = .ok (.iload_n 3, 1) := by decide +kernel
theorem dL_law_255 : decode cL_law 255 = .ok (.iconst 1, 1) := by decide +kernel
theorem dL_law_256 : decode cL_law 256 = .ok (.iadd, 1) := by decide +kernel
theorem dL_law_257 : decode cL_law 257 = .ok (.iaload, 1) := by decide +kernel
theorem dL_law_258 : decode cL_law 258 = .ok (.aload_n 0, 1) := by decide +kernel
theorem dL_law_259 : decode cL_law 259 = .ok (.iload_n 3, 1) := by decide +kernel
theorem dL_law_260 : decode cL_law 260 = .ok (.iconst 2, 1) := by decide +kernel
theorem dL_law_261 : decode cL_law 261 = .ok (.iadd, 1) := by decide +kernel
theorem dL_law_262 : decode cL_law 262 = .ok (.iaload, 1) := by decide +kernel
theorem dL_law_263 : decode cL_law 263 = .ok (.aload_n 0, 1) := by decide +kernel
theorem dL_law_264 : decode cL_law 264 = .ok (.iload_n 3, 1) := by decide +kernel
theorem dL_law_265 : decode cL_law 265 = .ok (.iconst 3, 1) := by decide +kernel
theorem dL_law_266 : decode cL_law 266 = .ok (.iadd, 1) := by decide +kernel
theorem dL_law_267 : decode cL_law 267 = .ok (.iaload, 1) := by decide +kernel
theorem dL_law_268 : decode cL_law 268 = .ok (.aload_n 0, 1) := by decide +kernel
theorem dL_law_269 : decode cL_law 269 = .ok (.iload_n 3, 1) := by decide +kernel
theorem dL_law_270 : decode cL_law 270 = .ok (.iconst 4, 1) := by decide +kernel
theorem dL_law_271 : decode cL_law 271 = .ok (.iadd, 1) := by decide +kernel
theorem dL_law_272 : decode cL_law 272 = .ok (.iaload, 1) := by decide +kernel
theorem dL_law_273 : decode cL_law 273 = .ok (.invokevirtual 32, 3) := by decide +kernel
theorem dL_law_276 : decode cL_law 276 = .ok (.aload_n 2, 1) := by decide +kernel
theorem dL_law_277 : decode cL_law 277 = .ok (.aload_n 0, 1) := by decide +kernel
theorem dL_law_278 : decode cL_law 278 = .ok (.iload_n 3, 1) := by decide +kernel
theorem dL_law_279 : decode cL_law 279 = .ok (.iconst 1, 1) := by decide +kernel
theorem dL_law_280 : decode cL_law 280 = .ok (.iadd, 1) := by decide +kernel
theorem dL_law_281 : decode cL_law 281 = .ok (.iaload, 1) := by decide +kernel
theorem dL_law_282 : decode cL_law 282 = .ok (.aload_n 0, 1) := by decide +kernel
theorem dL_law_283 : decode cL_law 283 = .ok (.iload_n 3, 1) := by decide +kernel
theorem dL_law_284 : decode cL_law 284 = .ok (.iconst 2, 1) := by decide +kernel
theorem dL_law_285 : decode cL_law 285 = .ok (.iadd, 1) := by decide +kernel
theorem dL_law_286 : decode cL_law 286 = .ok (.iaload, 1) := by decide +kernel
theorem dL_law_287 : decode cL_law 287 = .ok (.aload_n 0, 1) := by decide +kernel
theorem dL_law_288 : decode cL_law 288 = .ok (.iload_n 3, 1) := by decide +kernel
theorem dL_law_289 : decode cL_law 289 = .ok (.iconst 3, 1) := by decide +kernel
theorem dL_law_290 : decode cL_law 290 = .ok (.iadd, 1) := by decide +kernel
theorem dL_law_291 : decode cL_law 291 = .ok (.iaload, 1) := by decide +kernel
theorem dL_law_292 : decode cL_law 292 = .ok (.aload_n 0, 1) := by decide +kernel
theorem dL_law_293 : decode cL_law 293 = .ok (.iload_n 3, 1) := by decide +kernel
theorem dL_law_294 : decode cL_law 294 = .ok (.iconst 4, 1) := by decide +kernel
theorem dL_law_295 : decode cL_law 295 = .ok (.iadd, 1) := by decide +kernel
theorem dL_law_296 : decode cL_law 296 = .ok (.iaload, 1) := by decide +kernel
theorem dL_law_297 : decode cL_law 297 = .ok (.invokevirtual 36, 3) := by decide +kernel
theorem dL_law_300 : decode cL_law 300 = .ok (.if_icmp .eq 635, 3) := by decide +kernel
theorem dL_law_303 : decode cL_law 303 = .ok (.iconst 0, 1) := by decide +kernel
theorem dL_law_304 : decode cL_law 304 = .ok (.ireturn, 1) := by decide +kernel
theorem dL_law_305 : decode cL_law 305 = .ok (.aload_n 1, 1) := by decide +kernel
theorem dL_law_306 : decode cL_law 306 = .ok (.aload_n 0, 1) := by decide +kernel
theorem dL_law_307 : decode cL_law 307 = .ok (.iload_n 3, 1) := by decide +kernel
theorem dL_law_308 : decode cL_law 308 = .ok (.iconst 1, 1) := by decide +kernel
theorem dL_law_309 : decode cL_law 309 = .ok (.iadd, 1) := by decide +kernel
theorem dL_law_310 : decode cL_law 310 = .ok (.iaload, 1) := by decide +kernel
theorem dL_law_311 : decode cL_law 311 = .ok (.aload_n 0, 1) := by decide +kernel
theorem dL_law_312 : decode cL_law 312 = .ok (.iload_n 3, 1) := by decide +kernel
theorem dL_law_313 : decode cL_law 313 = .ok (.iconst 2, 1) := by decide +kernel
theorem dL_law_314 : decode cL_law 314 = .ok (.iadd, 1) := by decide +kernel
theorem dL_law_315 : decode cL_law 315 = .ok (.iaload, 1) := by decide +kernel
theorem dL_law_316 : decode cL_law 316 = .ok (.invokevirtual 37, 3) := by decide +kernel
theorem dL_law_319 : decode cL_law 319 = .ok (.aload_n 2, 1) := by decide +kernel
theorem dL_law_320 : decode cL_law 320 = .ok (.aload_n 0, 1) := by decide +kernel
theorem dL_law_321 : decode cL_law 321 = .ok (.iload_n 3, 1) := by decide +kernel
theorem dL_law_322 : decode cL_law 322 = .ok (.iconst 1, 1) := by decide +kernel
theorem dL_law_323 : decode cL_law 323 = .ok (.iadd, 1) := by decide +kernel
theorem dL_law_324 : decode cL_law 324 = .ok (.iaload, 1) := by decide +kernel
theorem dL_law_325 : decode cL_law 325 = .ok (.aload_n 0, 1) := by decide +kernel
theorem dL_law_326 : decode cL_law 326 = .ok (.iload_n 3, 1) := by decide +kernel
theorem dL_law_327 : decode cL_law 327 = .ok (.iconst 2, 1) := by decide +kernel
theorem dL_law_328 : decode cL_law 328 = .ok (.iadd, 1) := by decide +kernel
theorem dL_law_329 : decode cL_law 329 = .ok (.iaload, 1) := by decide +kernel
theorem dL_law_330 : decode cL_law 330 = .ok (.invokevirtual 40, 3) := by decide +kernel
theorem dL_law_333 : decode cL_law 333 = .ok (.if_icmp .eq 602, 3) := by decide +kernel
theorem dL_law_336 : decode cL_law 336 = .ok (.iconst 0, 1) := by decide +kernel
theorem dL_law_337 : decode cL_law 337 = .ok (.ireturn, 1) := by decide +kernel
theorem dL_law_338 : decode cL_law 338 = .ok (.aload_n 1, 1) := by decide +kernel
theorem dL_law_339 : decode cL_law 339 = .ok (.aload_n 0, 1) := by decide +kernel
theorem dL_law_340 : decode cL_law 340 = .ok (.iload_n 3, 1) := by decide +kernel
theorem dL_law_341 : decode cL_law 341 = .ok (.iconst 1, 1) := by decide +kernel
theorem dL_law_342 : decode cL_law 342 = .ok (.iadd, 1) := by decide +kernel
theorem dL_law_343 : decode cL_law 343 = .ok (.iaload, 1) := by decide +kernel
theorem dL_law_344 : decode cL_law 344 = .ok (.aload_n 0, 1) := by decide +kernel
theorem dL_law_345 : decode cL_law 345 = .ok (.iload_n 3, 1) := by decide +kernel
theorem dL_law_346 : decode cL_law 346 = .ok (.iconst 2, 1) := by decide +kernel
theorem dL_law_347 : decode cL_law 347 = .ok (.iadd, 1) := by decide +kernel
theorem dL_law_348 : decode cL_law 348 = .ok (.iaload, 1) := by decide +kernel
theorem dL_law_349 : decode cL_law 349 = .ok (.aload_n 0, 1) := by decide +kernel
theorem dL_law_350 : decode cL_law 350 = .ok (.iload_n 3, 1) := by decide +kernel
theorem dL_law_351 : decode cL_law 351 = .ok (.iconst 3, 1) := by decide +kernel
theorem dL_law_352 : decode cL_law 352 = .ok (.iadd, 1) := by decide +kernel
theorem dL_law_353 : decode cL_law 353 = .ok (.iaload, 1) := by decide +kernel
theorem dL_law_354 : decode cL_law 354 = .ok (.invokevirtual 41, 3) := by decide +kernel
theorem dL_law_357 : decode cL_law 357 = .ok (.aload_n 2, 1) := by decide +kernel
theorem dL_law_358 : decode cL_law 358 = .ok (.aload_n 0, 1) := by decide +kernel
theorem dL_law_359 : decode cL_law 359 = .ok (.iload_n 3, 1) := by decide +kernel
theorem dL_law_360 : decode cL_law 360 = .ok (.iconst 1, 1) := by decide +kernel
theorem dL_law_361 : decode cL_law 361 = .ok (.iadd, 1) := by decide +kernel
theorem dL_law_362 : decode cL_law 362 = .ok (.iaload, 1) := by decide +kernel
theorem dL_law_363 : decode cL_law 363 = .ok (.aload_n 0, 1) := by decide +kernel
theorem dL_law_364 : decode cL_law 364 = .ok (.iload_n 3, 1) := by decide +kernel
theorem dL_law_365 : decode cL_law 365 = .ok (.iconst 2, 1) := by decide +kernel
theorem dL_law_366 : decode cL_law 366 = .ok (.iadd, 1) := by decide +kernel
theorem dL_law_367 : decode cL_law 367 = .ok (.iaload, 1) := by decide +kernel
theorem dL_law_368 : decode cL_law 368 = .ok (.aload_n 0, 1) := by decide +kernel
theorem dL_law_369 : decode cL_law 369 = .ok (.iload_n 3, 1) := by decide +kernel
theorem dL_law_370 : decode cL_law 370 = .ok (.iconst 3, 1) := by decide +kernel
theorem dL_law_371 : decode cL_law 371 = .ok (.iadd, 1) := by decide +kernel
theorem dL_law_372 : decode cL_law 372 = .ok (.iaload, 1) := by decide +kernel
theorem dL_law_373 : decode cL_law 373 = .ok (.invokevirtual 45, 3) := by decide +kernel
theorem dL_law_376 : decode cL_law 376 = .ok (.if_icmp .eq 559, 3) := by decide +kernel
theorem dL_law_379 : decode cL_law 379 = .ok (.iconst 0, 1) := by decide +kernel
theorem dL_law_380 : decode cL_law 380 = .ok (.ireturn, 1) := by decide +kernel
theorem dL_law_381 : decode cL_law 381 = .ok (.aload_n 1, 1) := by decide +kernel
theorem dL_law_382 : decode cL_law 382 = .ok (.aload_n 0, 1) := by decide +kernel
theorem dL_law_383 : decode cL_law 383 = .ok (.iload_n 3, 1) := by decide +kernel
theorem dL_law_384 : decode cL_law 384 = .ok (.iconst 1, 1) := by decide +kernel
theorem dL_law_385 : decode cL_law 385 = .ok (.iadd, 1) := by decide +kernel
theorem dL_law_386 : decode cL_law 386 = .ok (.iaload, 1) := by decide +kernel
theorem dL_law_387 : decode cL_law 387 = .ok (.invokevirtual 46, 3) := by decide +kernel
theorem dL_law_390 : decode cL_law 390 = .ok (.aload_n 2, 1) := by decide +kernel
theorem dL_law_391 : decode cL_law 391 = .ok (.aload_n 0, 1) := by decide +kernel
theorem dL_law_392 : decode cL_law 392 = .ok (.iload_n 3, 1) := by decide +kernel
theorem dL_law_393 : decode cL_law 393 = .ok (.iconst 1, 1) := by decide +kernel
theorem dL_law_394 : decode cL_law 394 = .ok (.iadd, 1) := by decide +kernel
theorem dL_law_395 : decode cL_law 395 = .ok (.iaload, 1) := by decide +kernel
theorem dL_law_396 : decode cL_law 396 = .ok (.invokevirtual 49, 3) := by decide +kernel
theorem dL_law_399 : decode cL_law 399 = .ok (.if_icmp .eq 536, 3) := by decide +kernel
theorem dL_law_402 : decode cL_law 402 = .ok (.iconst 0, 1) := by decide +kernel
theorem dL_law_403 : decode cL_law 403 = .ok (.ireturn, 1) := by decide +kernel
theorem dL_law_404 : decode cL_law 404 = .ok (.aload_n 1, 1) := by decide +kernel
theorem dL_law_405 : decode cL_law 405 = .ok (.aload_n 0, 1) := by decide +kernel
theorem dL_law_406 : decode cL_law 406 = .ok (.iload_n 3, 1) := by decide +kernel
theorem dL_law_407 : decode cL_law 407 = .ok (.iconst 1, 1) := by decide +kernel
theorem dL_law_408 : decode cL_law 408 = .ok (.iadd, 1) := by decide +kernel
theorem dL_law_409 : decode cL_law 409 = .ok (.iaload, 1) := by decide +kernel
theorem dL_law_410 : decode cL_law 410 = .ok (.invokevirtual 50, 3) := by decide +kernel
theorem dL_law_413 : decode cL_law 413 = .ok (.aload_n 2, 1) := by decide +kernel
theorem dL_law_414 : decode cL_law 414 = .ok (.aload_n 0, 1) := by decide +kernel
theorem dL_law_415 : decode cL_law 415 = .ok (.iload_n 3, 1) := by decide +kernel
theorem dL_law_416 : decode cL_law 416 = .ok (.iconst 1, 1) := by decide +kernel
theorem dL_law_417 : decode cL_law 417 = .ok (.iadd, 1) := by decide +kernel
theorem dL_law_418 : decode cL_law 418 = .ok (.iaload, 1) := by decide +kernel
theorem dL_law_419 : decode cL_law 419 = .ok (.invokevirtual 53, 3) := by decide +kernel
theorem dL_law_422 : decode cL_law 422 = .ok (.if_icmp .eq 513, 3) := by decide +kernel
theorem dL_law_425 : decode cL_law 425 = .ok (.iconst 0, 1) := by decide +kernel
theorem dL_law_426 : decode cL_law 426 = .ok (.ireturn, 1) := by decide +kernel
theorem dL_law_427 : decode cL_law 427 = .ok (.aload_n 1, 1) := by decide +kernel
theorem dL_law_428 : decode cL_law 428 = .ok (.aload_n 0, 1) := by decide +kernel
theorem dL_law_429 : decode cL_law 429 = .ok (.iload_n 3, 1) := by decide +kernel
theorem dL_law_430 : decode cL_law 430 = .ok (.iconst 1, 1) := by decide +kernel
theorem dL_law_431 : decode cL_law 431 = .ok (.iadd, 1) := by decide +kernel
theorem dL_law_432 : decode cL_law 432 = .ok (.iaload, 1) := by decide +kernel
theorem dL_law_433 : decode cL_law 433 = .ok (.invokevirtual 54, 3) := by decide +kernel
theorem dL_law_436 : decode cL_law 436 = .ok (.aload_n 2, 1) := by decide +kernel
theorem dL_law_437 : decode cL_law 437 = .ok (.aload_n 0, 1) := by decide +kernel
theorem dL_law_438 : decode cL_law 438 = .ok (.iload_n 3, 1) := by decide +kernel
theorem dL_law_439 : decode cL_law 439 = .ok (.iconst 1, 1) := by decide +kernel
theorem dL_law_440 : decode cL_law 440 = .ok (.iadd, 1) := by decide +kernel
theorem dL_law_441 : decode cL_law 441 = .ok (.iaload, 1) := by decide +kernel
theorem dL_law_442 : decode cL_law 442 = .ok (.invokevirtual 57, 3) := by decide +kernel
theorem dL_law_445 : decode cL_law 445 = .ok (.if_icmp .eq 490, 3) := by decide +kernel
theorem dL_law_448 : decode cL_law 448 = .ok (.iconst 0, 1) := by decide +kernel
theorem dL_law_449 : decode cL_law 449 = .ok (.ireturn, 1) := by decide +kernel
theorem dL_law_450 : decode cL_law 450 = .ok (.aload_n 1, 1) := by decide +kernel
theorem dL_law_451 : decode cL_law 451 = .ok (.aload_n 0, 1) := by decide +kernel
theorem dL_law_452 : decode cL_law 452 = .ok (.iload_n 3, 1) := by decide +kernel
theorem dL_law_453 : decode cL_law 453 = .ok (.iconst 1, 1) := by decide +kernel
theorem dL_law_454 : decode cL_law 454 = .ok (.iadd, 1) := by decide +kernel
theorem dL_law_455 : decode cL_law 455 = .ok (.iaload, 1) := by decide +kernel
theorem dL_law_456 : decode cL_law 456 = .ok (.invokevirtual 58, 3) := by decide +kernel
theorem dL_law_459 : decode cL_law 459 = .ok (.aload_n 2, 1) := by decide +kernel
theorem dL_law_460 : decode cL_law 460 = .ok (.aload_n 0, 1) := by decide +kernel
theorem dL_law_461 : decode cL_law 461 = .ok (.iload_n 3, 1) := by decide +kernel
theorem dL_law_462 : decode cL_law 462 = .ok (.iconst 1, 1) := by decide +kernel
theorem dL_law_463 : decode cL_law 463 = .ok (.iadd, 1) := by decide +kernel
theorem dL_law_464 : decode cL_law 464 = .ok (.iaload, 1) := by decide +kernel
theorem dL_law_465 : decode cL_law 465 = .ok (.invokevirtual 61, 3) := by decide +kernel
theorem dL_law_468 : decode cL_law 468 = .ok (.if_icmp .eq 467, 3) := by decide +kernel
theorem dL_law_471 : decode cL_law 471 = .ok (.iconst 0, 1) := by decide +kernel
theorem dL_law_472 : decode cL_law 472 = .ok (.ireturn, 1) := by decide +kernel
theorem dL_law_473 : decode cL_law 473 = .ok (.aload_n 1, 1) := by decide +kernel
theorem dL_law_474 : decode cL_law 474 = .ok (.aload_n 0, 1) := by decide +kernel
theorem dL_law_475 : decode cL_law 475 = .ok (.iload_n 3, 1) := by decide +kernel
theorem dL_law_476 : decode cL_law 476 = .ok (.iconst 1, 1) := by decide +kernel
theorem dL_law_477 : decode cL_law 477 = .ok (.iadd, 1) := by decide +kernel
theorem dL_law_478 : decode cL_law 478 = .ok (.iaload, 1) := by decide +kernel
theorem dL_law_479 : decode cL_law 479 = .ok (.aload_n 0, 1) := by decide +kernel
theorem dL_law_480 : decode cL_law 480 = .ok (.iload_n 3, 1) := by decide +kernel
theorem dL_law_481 : decode cL_law 481 = .ok (.iconst 2, 1) := by decide +kernel
theorem dL_law_482 : decode cL_law 482 = .ok (.iadd, 1) := by decide +kernel
theorem dL_law_483 : decode cL_law 483 = .ok (.iaload, 1) := by decide +kernel
theorem dL_law_484 : decode cL_law 484 = .ok (.aload_n 0, 1) := by decide +kernel
theorem dL_law_485 : decode cL_law 485 = .ok (.iload_n 3, 1) := by decide +kernel
theorem dL_law_486 : decode cL_law 486 = .ok (.iconst 3, 1) := by decide +kernel
theorem dL_law_487 : decode cL_law 487 = .ok (.iadd, 1) := by decide +kernel
theorem dL_law_488 : decode cL_law 488 = .ok (.iaload, 1) := by decide +kernel
theorem dL_law_489 : decode cL_law 489 = .ok (.invokevirtual 62, 3) := by decide +kernel
theorem dL_law_492 : decode cL_law 492 = .ok (.aload_n 2, 1) := by decide +kernel
theorem dL_law_493 : decode cL_law 493 = .ok (.aload_n 0, 1) := by decide +kernel
theorem dL_law_494 : decode cL_law 494 = .ok (.iload_n 3, 1) := by decide +kernel
theorem dL_law_495 : decode cL_law 495 = .ok (.iconst 1, 1) := by decide +kernel
theorem dL_law_496 : decode cL_law 496 = .ok (.iadd, 1) := by decide +kernel
theorem dL_law_497 : decode cL_law 497 = .ok (.iaload, 1) := by decide +kernel
theorem dL_law_498 : decode cL_law 498 = .ok (.aload_n 0, 1) := by decide +kernel
theorem dL_law_499 : decode cL_law 499 = .ok (.iload_n 3, 1) := by decide +kernel
theorem dL_law_500 : decode cL_law 500 = .ok (.iconst 2, 1) := by decide +kernel
theorem dL_law_501 : decode cL_law 501 = .ok (.iadd, 1) := by decide +kernel
theorem dL_law_502 : decode cL_law 502 = .ok (.iaload, 1) := by decide +kernel
theorem dL_law_503 : decode cL_law 503 = .ok (.aload_n 0, 1) := by decide +kernel
theorem dL_law_504 : decode cL_law 504 = .ok (.iload_n 3, 1) := by decide +kernel
theorem dL_law_505 : decode cL_law 505 = .ok (.iconst 3, 1) := by decide +kernel
theorem dL_law_506 : decode cL_law 506 = .ok (.iadd, 1) := by decide +kernel
theorem dL_law_507 : decode cL_law 507 = .ok (.iaload, 1) := by decide +kernel
theorem dL_law_508 : decode cL_law 508 = .ok (.invokevirtual 65, 3) := by decide +kernel
theorem dL_law_511 : decode cL_law 511 = .ok (.if_icmp .eq 424, 3) := by decide +kernel
theorem dL_law_514 : decode cL_law 514 = .ok (.iconst 0, 1) := by decide +kernel
theorem dL_law_515 : decode cL_law 515 = .ok (.ireturn, 1) := by decide +kernel
theorem dL_law_516 : decode cL_law 516 = .ok (.aload_n 1, 1) := by decide +kernel
theorem dL_law_517 : decode cL_law 517 = .ok (.aload_n 0, 1) := by decide +kernel
theorem dL_law_518 : decode cL_law 518 = .ok (.iload_n 3, 1) := by decide +kernel
theorem dL_law_519 : decode cL_law 519 = .ok (.iconst 1, 1) := by decide +kernel
theorem dL_law_520 : decode cL_law 520 = .ok (.iadd, 1) := by decide +kernel
theorem dL_law_521 : decode cL_law 521 = .ok (.iaload, 1) := by decide +kernel
theorem dL_law_522 : decode cL_law 522 = .ok (.aload_n 0, 1) := by decide +kernel
theorem dL_law_523 : decode cL_law 523 = .ok (.iload_n 3, 1) := by decide +kernel
theorem dL_law_524 : decode cL_law 524 = .ok (.iconst 2, 1) := by decide +kernel
theorem dL_law_525 : decode cL_law 525 = .ok (.iadd, 1) := by decide +kernel
theorem dL_law_526 : decode cL_law 526 = .ok (.iaload, 1) := by decide +kernel
theorem dL_law_527 : decode cL_law 527 = .ok (.invokevirtual 66, 3) := by decide +kernel
theorem dL_law_530 : decode cL_law 530 = .ok (.aload_n 2, 1) := by decide +kernel
theorem dL_law_531 : decode cL_law 531 = .ok (.aload_n 0, 1) := by decide +kernel
theorem dL_law_532 : decode cL_law 532 = .ok (.iload_n 3, 1) := by decide +kernel
theorem dL_law_533 : decode cL_law 533 = .ok (.iconst 1, 1) := by decide +kernel
theorem dL_law_534 : decode cL_law 534 = .ok (.iadd, 1) := by decide +kernel
theorem dL_law_535 : decode cL_law 535 = .ok (.iaload, 1) := by decide +kernel
theorem dL_law_536 : decode cL_law 536 = .ok (.aload_n 0, 1) := by decide +kernel
theorem dL_law_537 : decode cL_law 537 = .ok (.iload_n 3, 1) := by decide +kernel
theorem dL_law_538 : decode cL_law 538 = .ok (.iconst 2, 1) := by decide +kernel
theorem dL_law_539 : decode cL_law 539 = .ok (.iadd, 1) := by decide +kernel
theorem dL_law_540 : decode cL_law 540 = .ok (.iaload, 1) := by decide +kernel
theorem dL_law_541 : decode cL_law 541 = .ok (.invokevirtual 69, 3) := by decide +kernel
theorem dL_law_544 : decode cL_law 544 = .ok (.if_icmp .eq 391, 3) := by decide +kernel
theorem dL_law_547 : decode cL_law 547 = .ok (.iconst 0, 1) := by decide +kernel
theorem dL_law_548 : decode cL_law 548 = .ok (.ireturn, 1) := by decide +kernel
theorem dL_law_549 : decode cL_law 549 = .ok (.aload_n 1, 1) := by decide +kernel
theorem dL_law_550 : decode cL_law 550 = .ok (.aload_n 0, 1) := by decide +kernel
theorem dL_law_551 : decode cL_law 551 = .ok (.iload_n 3, 1) := by decide +kernel
theorem dL_law_552 : decode cL_law 552 = .ok (.iconst 1, 1) := by decide +kernel
theorem dL_law_553 : decode cL_law 553 = .ok (.iadd, 1) := by decide +kernel
theorem dL_law_554 : decode cL_law 554 = .ok (.iaload, 1) := by decide +kernel
theorem dL_law_555 : decode cL_law 555 = .ok (.aload_n 0, 1) := by decide +kernel
theorem dL_law_556 : decode cL_law 556 = .ok (.iload_n 3, 1) := by decide +kernel
theorem dL_law_557 : decode cL_law 557 = .ok (.iconst 2, 1) := by decide +kernel
theorem dL_law_558 : decode cL_law 558 = .ok (.iadd, 1) := by decide +kernel
theorem dL_law_559 : decode cL_law 559 = .ok (.iaload, 1) := by decide +kernel
theorem dL_law_560 : decode cL_law 560 = .ok (.invokevirtual 70, 3) := by decide +kernel
theorem dL_law_563 : decode cL_law 563 = .ok (.aload_n 2, 1) := by decide +kernel
theorem dL_law_564 : decode cL_law 564 = .ok (.aload_n 0, 1) := by decide +kernel
theorem dL_law_565 : decode cL_law 565 = .ok (.iload_n 3, 1) := by decide +kernel
theorem dL_law_566 : decode cL_law 566 = .ok (.iconst 1, 1) := by decide +kernel
theorem dL_law_567 : decode cL_law 567 = .ok (.iadd, 1) := by decide +kernel
theorem dL_law_568 : decode cL_law 568 = .ok (.iaload, 1) := by decide +kernel
theorem dL_law_569 : decode cL_law 569 = .ok (.aload_n 0, 1) := by decide +kernel
theorem dL_law_570 : decode cL_law 570 = .ok (.iload_n 3, 1) := by decide +kernel
theorem dL_law_571 : decode cL_law 571 = .ok (.iconst 2, 1) := by decide +kernel
theorem dL_law_572 : decode cL_law 572 = .ok (.iadd, 1) := by decide +kernel
theorem dL_law_573 : decode cL_law 573 = .ok (.iaload, 1) := by decide +kernel
theorem dL_law_574 : decode cL_law 574 = .ok (.invokevirtual 73, 3) := by decide +kernel
theorem dL_law_577 : decode cL_law 577 = .ok (.if_icmp .eq 358, 3) := by decide +kernel
theorem dL_law_580 : decode cL_law 580 = .ok (.iconst 0, 1) := by decide +kernel
theorem dL_law_581 : decode cL_law 581 = .ok (.ireturn, 1) := by decide +kernel
theorem dL_law_582 : decode cL_law 582 = .ok (.aload_n 1, 1) := by decide +kernel
theorem dL_law_583 : decode cL_law 583 = .ok (.aload_n 0, 1) := by decide +kernel
theorem dL_law_584 : decode cL_law 584 = .ok (.iload_n 3, 1) := by decide +kernel
theorem dL_law_585 : decode cL_law 585 = .ok (.iconst 1, 1) := by decide +kernel
theorem dL_law_586 : decode cL_law 586 = .ok (.iadd, 1) := by decide +kernel
theorem dL_law_587 : decode cL_law 587 = .ok (.iaload, 1) := by decide +kernel
theorem dL_law_588 : decode cL_law 588 = .ok (.aload_n 0, 1) := by decide +kernel
theorem dL_law_589 : decode cL_law 589 = .ok (.iload_n 3, 1) := by decide +kernel
theorem dL_law_590 : decode cL_law 590 = .ok (.iconst 2, 1) := by decide +kernel
theorem dL_law_591 : decode cL_law 591 = .ok (.iadd, 1) := by decide +kernel
theorem dL_law_592 : decode cL_law 592 = .ok (.iaload, 1) := by decide +kernel
theorem dL_law_593 : decode cL_law 593 = .ok (.invokevirtual 74, 3) := by decide +kernel
theorem dL_law_596 : decode cL_law 596 = .ok (.aload_n 2, 1) := by decide +kernel
theorem dL_law_597 : decode cL_law 597 = .ok (.aload_n 0, 1) := by decide +kernel
theorem dL_law_598 : decode cL_law 598 = .ok (.iload_n 3, 1) := by decide +kernel
theorem dL_law_599 : decode cL_law 599 = .ok (.iconst 1, 1) := by decide +kernel
theorem dL_law_600 : decode cL_law 600 = .ok (.iadd, 1) := by decide +kernel
theorem dL_law_601 : decode cL_law 601 = .ok (.iaload, 1) := by decide +kernel
theorem dL_law_602 : decode cL_law 602 = .ok (.aload_n 0, 1) := by decide +kernel
theorem dL_law_603 : decode cL_law 603 = .ok (.iload_n 3, 1) := by decide +kernel
theorem dL_law_604 : decode cL_law 604 = .ok (.iconst 2, 1) := by decide +kernel
theorem dL_law_605 : decode cL_law 605 = .ok (.iadd, 1) := by decide +kernel
theorem dL_law_606 : decode cL_law 606 = .ok (.iaload, 1) := by decide +kernel
theorem dL_law_607 : decode cL_law 607 = .ok (.invokevirtual 77, 3) := by decide +kernel
theorem dL_law_610 : decode cL_law 610 = .ok (.if_icmp .eq 325, 3) := by decide +kernel
theorem dL_law_613 : decode cL_law 613 = .ok (.iconst 0, 1) := by decide +kernel
theorem dL_law_614 : decode cL_law 614 = .ok (.ireturn, 1) := by decide +kernel
theorem dL_law_615 : decode cL_law 615 = .ok (.aload_n 1, 1) := by decide +kernel
theorem dL_law_616 : decode cL_law 616 = .ok (.aload_n 0, 1) := by decide +kernel
theorem dL_law_617 : decode cL_law 617 = .ok (.iload_n 3, 1) := by decide +kernel
theorem dL_law_618 : decode cL_law 618 = .ok (.iconst 1, 1) := by decide +kernel
theorem dL_law_619 : decode cL_law 619 = .ok (.iadd, 1) := by decide +kernel
theorem dL_law_620 : decode cL_law 620 = .ok (.iaload, 1) := by decide +kernel
theorem dL_law_621 : decode cL_law 621 = .ok (.aload_n 0, 1) := by decide +kernel
theorem dL_law_622 : decode cL_law 622 = .ok (.iload_n 3, 1) := by decide +kernel
theorem dL_law_623 : decode cL_law 623 = .ok (.iconst 2, 1) := by decide +kernel
theorem dL_law_624 : decode cL_law 624 = .ok (.iadd, 1) := by decide +kernel
theorem dL_law_625 : decode cL_law 625 = .ok (.iaload, 1) := by decide +kernel
theorem dL_law_626 : decode cL_law 626 = .ok (.invokevirtual 78, 3) := by decide +kernel
theorem dL_law_629 : decode cL_law 629 = .ok (.aload_n 2, 1) := by decide +kernel
theorem dL_law_630 : decode cL_law 630 = .ok (.aload_n 0, 1) := by decide +kernel
theorem dL_law_631 : decode cL_law 631 = .ok (.iload_n 3, 1) := by decide +kernel
theorem dL_law_632 : decode cL_law 632 = .ok (.iconst 1, 1) := by decide +kernel
theorem dL_law_633 : decode cL_law 633 = .ok (.iadd, 1) := by decide +kernel
theorem dL_law_634 : decode cL_law 634 = .ok (.iaload, 1) := by decide +kernel
theorem dL_law_635 : decode cL_law 635 = .ok (.aload_n 0, 1) := by decide +kernel
theorem dL_law_636 : decode cL_law 636 = .ok (.iload_n 3, 1) := by decide +kernel
theorem dL_law_637 : decode cL_law 637 = .ok (.iconst 2, 1) := by decide +kernel
theorem dL_law_638 : decode cL_law 638 = .ok (.iadd, 1) := by decide +kernel
theorem dL_law_639 : decode cL_law 639 = .ok (.iaload, 1) := by decide +kernel
theorem dL_law_640 : decode cL_law 640 = .ok (.invokevirtual 81, 3) := by decide +kernel
theorem dL_law_643 : decode cL_law 643 = .ok (.if_icmp .eq 292, 3) := by decide +kernel
theorem dL_law_646 : decode cL_law 646 = .ok (.iconst 0, 1) := by decide +kernel
theorem dL_law_647 : decode cL_law 647 = .ok (.ireturn, 1) := by decide +kernel
theorem dL_law_648 : decode cL_law 648 = .ok (.aload_n 1, 1) := by decide +kernel
theorem dL_law_649 : decode cL_law 649 = .ok (.aload_n 0, 1) := by decide +kernel
theorem dL_law_650 : decode cL_law 650 = .ok (.iload_n 3, 1) := by decide +kernel
theorem dL_law_651 : decode cL_law 651 = .ok (.iconst 1, 1) := by decide +kernel
theorem dL_law_652 : decode cL_law 652 = .ok (.iadd, 1) := by decide +kernel
theorem dL_law_653 : decode cL_law 653 = .ok (.iaload, 1) := by decide +kernel
theorem dL_law_654 : decode cL_law 654 = .ok (.aload_n 0, 1) := by decide +kernel
theorem dL_law_655 : decode cL_law 655 = .ok (.iload_n 3, 1) := by decide +kernel
theorem dL_law_656 : decode cL_law 656 = .ok (.iconst 2, 1) := by decide +kernel
theorem dL_law_657 : decode cL_law 657 = .ok (.iadd, 1) := by decide +kernel
theorem dL_law_658 : decode cL_law 658 = .ok (.iaload, 1) := by decide +kernel
theorem dL_law_659 : decode cL_law 659 = .ok (.aload_n 0, 1) := by decide +kernel
theorem dL_law_660 : decode cL_law 660 = .ok (.iload_n 3, 1) := by decide +kernel
theorem dL_law_661 : decode cL_law 661 = .ok (.iconst 3, 1) := by decide +kernel
theorem dL_law_662 : decode cL_law 662 = .ok (.iadd, 1) := by decide +kernel
theorem dL_law_663 : decode cL_law 663 = .ok (.iaload, 1) := by decide +kernel
theorem dL_law_664 : decode cL_law 664 = .ok (.invokevirtual 82, 3) := by decide +kernel
theorem dL_law_667 : decode cL_law 667 = .ok (.aload_n 2, 1) := by decide +kernel
theorem dL_law_668 : decode cL_law 668 = .ok (.aload_n 0, 1) := by decide +kernel
theorem dL_law_669 : decode cL_law 669 = .ok (.iload_n 3, 1) := by decide +kernel
theorem dL_law_670 : decode cL_law 670 = .ok (.iconst 1, 1) := by decide +kernel
theorem dL_law_671 : decode cL_law 671 = .ok (.iadd, 1) := by decide +kernel
theorem dL_law_672 : decode cL_law 672 = .ok (.iaload, 1) := by decide +kernel
theorem dL_law_673 : decode cL_law 673 = .ok (.aload_n 0, 1) := by decide +kernel
theorem dL_law_674 : decode cL_law 674 = .ok (.iload_n 3, 1) := by decide +kernel
theorem dL_law_675 : decode cL_law 675 = .ok (.iconst 2, 1) := by decide +kernel
theorem dL_law_676 : decode cL_law 676 = .ok (.iadd, 1) := by decide +kernel
theorem dL_law_677 : decode cL_law 677 = .ok (.iaload, 1) := by decide +kernel
theorem dL_law_678 : decode cL_law 678 = .ok (.aload_n 0, 1) := by decide +kernel
theorem dL_law_679 : decode cL_law 679 = .ok (.iload_n 3, 1) := by decide +kernel
theorem dL_law_680 : decode cL_law 680 = .ok (.iconst 3, 1) := by decide +kernel
theorem dL_law_681 : decode cL_law 681 = .ok (.iadd, 1) := by decide +kernel
theorem dL_law_682 : decode cL_law 682 = .ok (.iaload, 1) := by decide +kernel
theorem dL_law_683 : decode cL_law 683 = .ok (.invokevirtual 85, 3) := by decide +kernel
theorem dL_law_686 : decode cL_law 686 = .ok (.if_icmp .eq 249, 3) := by decide +kernel
theorem dL_law_689 : decode cL_law 689 = .ok (.iconst 0, 1) := by decide +kernel
theorem dL_law_690 : decode cL_law 690 = .ok (.ireturn, 1) := by decide +kernel
theorem dL_law_691 : decode cL_law 691 = .ok (.aload_n 1, 1) := by decide +kernel
theorem dL_law_692 : decode cL_law 692 = .ok (.aload_n 0, 1) := by decide +kernel
theorem dL_law_693 : decode cL_law 693 = .ok (.iload_n 3, 1) := by decide +kernel
theorem dL_law_694 : decode cL_law 694 = .ok (.iconst 1, 1) := by decide +kernel
theorem dL_law_695 : decode cL_law 695 = .ok (.iadd, 1) := by decide +kernel
theorem dL_law_696 : decode cL_law 696 = .ok (.iaload, 1) := by decide +kernel
theorem dL_law_697 : decode cL_law 697 = .ok (.aload_n 0, 1) := by decide +kernel
theorem dL_law_698 : decode cL_law 698 = .ok (.iload_n 3, 1) := by decide +kernel
theorem dL_law_699 : decode cL_law 699 = .ok (.iconst 2, 1) := by decide +kernel
theorem dL_law_700 : decode cL_law 700 = .ok (.iadd, 1) := by decide +kernel
theorem dL_law_701 : decode cL_law 701 = .ok (.iaload, 1) := by decide +kernel
theorem dL_law_702 : decode cL_law 702 = .ok (.invokevirtual 86, 3) := by decide +kernel
theorem dL_law_705 : decode cL_law 705 = .ok (.aload_n 2, 1) := by decide +kernel
theorem dL_law_706 : decode cL_law 706 = .ok (.aload_n 0, 1) := by decide +kernel
theorem dL_law_707 : decode cL_law 707 = .ok (.iload_n 3, 1) := by decide +kernel
theorem dL_law_708 : decode cL_law 708 = .ok (.iconst 1, 1) := by decide +kernel
theorem dL_law_709 : decode cL_law 709 = .ok (.iadd, 1) := by decide +kernel
theorem dL_law_710 : decode cL_law 710 = .ok (.iaload, 1) := by decide +kernel
theorem dL_law_711 : decode cL_law 711 = .ok (.aload_n 0, 1) := by decide +kernel
theorem dL_law_712 : decode cL_law 712 = .ok (.iload_n 3, 1) := by decide +kernel
theorem dL_law_713 : decode cL_law 713 = .ok (.iconst 2, 1) := by decide +kernel
theorem dL_law_714 : decode cL_law 714 = .ok (.iadd, 1) := by decide +kernel
theorem dL_law_715 : decode cL_law 715 = .ok (.iaload, 1) := by decide +kernel
theorem dL_law_716 : decode cL_law 716 = .ok (.invokevirtual 89, 3) := by decide +kernel
theorem dL_law_719 : decode cL_law 719 = .ok (.if_icmp .eq 216, 3) := by decide +kernel
theorem dL_law_722 : decode cL_law 722 = .ok (.iconst 0, 1) := by decide +kernel
theorem dL_law_723 : decode cL_law 723 = .ok (.ireturn, 1) := by decide +kernel
theorem dL_law_724 : decode cL_law 724 = .ok (.aload_n 1, 1) := by decide +kernel
theorem dL_law_725 : decode cL_law 725 = .ok (.aload_n 0, 1) := by decide +kernel
theorem dL_law_726 : decode cL_law 726 = .ok (.iload_n 3, 1) := by decide +kernel
theorem dL_law_727 : decode cL_law 727 = .ok (.iconst 1, 1) := by decide +kernel
theorem dL_law_728 : decode cL_law 728 = .ok (.iadd, 1) := by decide +kernel
theorem dL_law_729 : decode cL_law 729 = .ok (.iaload, 1) := by decide +kernel
theorem dL_law_730 : decode cL_law 730 = .ok (.invokevirtual 90, 3) := by decide +kernel
theorem dL_law_733 : decode cL_law 733 = .ok (.aload_n 2, 1) := by decide +kernel
theorem dL_law_734 : decode cL_law 734 = .ok (.aload_n 0, 1) := by decide +kernel
theorem dL_law_735 : decode cL_law 735 = .ok (.iload_n 3, 1) := by decide +kernel
theorem dL_law_736 : decode cL_law 736 = .ok (.iconst 1, 1) := by decide +kernel
theorem dL_law_737 : decode cL_law 737 = .ok (.iadd, 1) := by decide +kernel
theorem dL_law_738 : decode cL_law 738 = .ok (.iaload, 1) := by decide +kernel
theorem dL_law_739 : decode cL_law 739 = .ok (.invokevirtual 93, 3) := by decide +kernel
theorem dL_law_742 : decode cL_law 742 = .ok (.if_icmp .eq 193, 3) := by decide +kernel
theorem dL_law_745 : decode cL_law 745 = .ok (.iconst 0, 1) := by decide +kernel
theorem dL_law_746 : decode cL_law 746 = .ok (.ireturn, 1) := by decide +kernel
theorem dL_law_747 : decode cL_law 747 = .ok (.aload_n 1, 1) := by decide +kernel
theorem dL_law_748 : decode cL_law 748 = .ok (.aload_n 0, 1) := by decide +kernel
theorem dL_law_749 : decode cL_law 749 = .ok (.iload_n 3, 1) := by decide +kernel
theorem dL_law_750 : decode cL_law 750 = .ok (.iconst 1, 1) := by decide +kernel
theorem dL_law_751 : decode cL_law 751 = .ok (.iadd, 1) := by decide +kernel
theorem dL_law_752 : decode cL_law 752 = .ok (.iaload, 1) := by decide +kernel
theorem dL_law_753 : decode cL_law 753 = .ok (.aload_n 0, 1) := by decide +kernel
theorem dL_law_754 : decode cL_law 754 = .ok (.iload_n 3, 1) := by decide +kernel
theorem dL_law_755 : decode cL_law 755 = .ok (.iconst 2, 1) := by decide +kernel
theorem dL_law_756 : decode cL_law 756 = .ok (.iadd, 1) := by decide +kernel
theorem dL_law_757 : decode cL_law 757 = .ok (.iaload, 1) := by decide +kernel
theorem dL_law_758 : decode cL_law 758 = .ok (.aload_n 0, 1) := by decide +kernel
theorem dL_law_759 : decode cL_law 759 = .ok (.iload_n 3, 1) := by decide +kernel
theorem dL_law_760 : decode cL_law 760 = .ok (.iconst 3, 1) := by decide +kernel
theorem dL_law_761 : decode cL_law 761 = .ok (.iadd, 1) := by decide +kernel
theorem dL_law_762 : decode cL_law 762 = .ok (.iaload, 1) := by decide +kernel
theorem dL_law_763 : decode cL_law 763 = .ok (.aload_n 0, 1) := by decide +kernel
theorem dL_law_764 : decode cL_law 764 = .ok (.iload_n 3, 1) := by decide +kernel
theorem dL_law_765 : decode cL_law 765 = .ok (.iconst 4, 1) := by decide +kernel
theorem dL_law_766 : decode cL_law 766 = .ok (.iadd, 1) := by decide +kernel
theorem dL_law_767 : decode cL_law 767 = .ok (.iaload, 1) := by decide +kernel
theorem dL_law_768 : decode cL_law 768 = .ok (.invokevirtual 94, 3) := by decide +kernel
theorem dL_law_771 : decode cL_law 771 = .ok (.aload_n 2, 1) := by decide +kernel
theorem dL_law_772 : decode cL_law 772 = .ok (.aload_n 0, 1) := by decide +kernel
theorem dL_law_773 : decode cL_law 773 = .ok (.iload_n 3, 1) := by decide +kernel
theorem dL_law_774 : decode cL_law 774 = .ok (.iconst 1, 1) := by decide +kernel
theorem dL_law_775 : decode cL_law 775 = .ok (.iadd, 1) := by decide +kernel
theorem dL_law_776 : decode cL_law 776 = .ok (.iaload, 1) := by decide +kernel
theorem dL_law_777 : decode cL_law 777 = .ok (.aload_n 0, 1) := by decide +kernel
theorem dL_law_778 : decode cL_law 778 = .ok (.iload_n 3, 1) := by decide +kernel
theorem dL_law_779 : decode cL_law 779 = .ok (.iconst 2, 1) := by decide +kernel
theorem dL_law_780 : decode cL_law 780 = .ok (.iadd, 1) := by decide +kernel
theorem dL_law_781 : decode cL_law 781 = .ok (.iaload, 1) := by decide +kernel
theorem dL_law_782 : decode cL_law 782 = .ok (.aload_n 0, 1) := by decide +kernel
theorem dL_law_783 : decode cL_law 783 = .ok (.iload_n 3, 1) := by decide +kernel
theorem dL_law_784 : decode cL_law 784 = .ok (.iconst 3, 1) := by decide +kernel
theorem dL_law_785 : decode cL_law 785 = .ok (.iadd, 1) := by decide +kernel
theorem dL_law_786 : decode cL_law 786 = .ok (.iaload, 1) := by decide +kernel
theorem dL_law_787 : decode cL_law 787 = .ok (.aload_n 0, 1) := by decide +kernel
theorem dL_law_788 : decode cL_law 788 = .ok (.iload_n 3, 1) := by decide +kernel
theorem dL_law_789 : decode cL_law 789 = .ok (.iconst 4, 1) := by decide +kernel
theorem dL_law_790 : decode cL_law 790 = .ok (.iadd, 1) := by decide +kernel
theorem dL_law_791 : decode cL_law 791 = .ok (.iaload, 1) := by decide +kernel
theorem dL_law_792 : decode cL_law 792 = .ok (.invokevirtual 97, 3) := by decide +kernel
theorem dL_law_795 : decode cL_law 795 = .ok (.if_icmp .eq 140, 3) := by decide +kernel
theorem dL_law_798 : decode cL_law 798 = .ok (.iconst 0, 1) := by decide +kernel
theorem dL_law_799 : decode cL_law 799 = .ok (.ireturn, 1) := by decide +kernel
theorem dL_law_800 : decode cL_law 800 = .ok (.aload_n 1, 1) := by decide +kernel
theorem dL_law_801 : decode cL_law 801 = .ok (.aload_n 0, 1) := by decide +kernel
theorem dL_law_802 : decode cL_law 802 = .ok (.iload_n 3, 1) := by decide +kernel
theorem dL_law_803 : decode cL_law 803 = .ok (.iconst 1, 1) := by decide +kernel
theorem dL_law_804 : decode cL_law 804 = .ok (.iadd, 1) := by decide +kernel
theorem dL_law_805 : decode cL_law 805 = .ok (.iaload, 1) := by decide +kernel
theorem dL_law_806 : decode cL_law 806 = .ok (.invokevirtual 98, 3) := by decide +kernel
theorem dL_law_809 : decode cL_law 809 = .ok (.aload_n 2, 1) := by decide +kernel
theorem dL_law_810 : decode cL_law 810 = .ok (.aload_n 0, 1) := by decide +kernel
theorem dL_law_811 : decode cL_law 811 = .ok (.iload_n 3, 1) := by decide +kernel
theorem dL_law_812 : decode cL_law 812 = .ok (.iconst 1, 1) := by decide +kernel
theorem dL_law_813 : decode cL_law 813 = .ok (.iadd, 1) := by decide +kernel
theorem dL_law_814 : decode cL_law 814 = .ok (.iaload, 1) := by decide +kernel
theorem dL_law_815 : decode cL_law 815 = .ok (.invokevirtual 101, 3) := by decide +kernel
theorem dL_law_818 : decode cL_law 818 = .ok (.if_icmp .eq 117, 3) := by decide +kernel
theorem dL_law_821 : decode cL_law 821 = .ok (.iconst 0, 1) := by decide +kernel
theorem dL_law_822 : decode cL_law 822 = .ok (.ireturn, 1) := by decide +kernel
theorem dL_law_823 : decode cL_law 823 = .ok (.aload_n 1, 1) := by decide +kernel
theorem dL_law_824 : decode cL_law 824 = .ok (.aload_n 0, 1) := by decide +kernel
theorem dL_law_825 : decode cL_law 825 = .ok (.iload_n 3, 1) := by decide +kernel
theorem dL_law_826 : decode cL_law 826 = .ok (.iconst 1, 1) := by decide +kernel
theorem dL_law_827 : decode cL_law 827 = .ok (.iadd, 1) := by decide +kernel
theorem dL_law_828 : decode cL_law 828 = .ok (.iaload, 1) := by decide +kernel
theorem dL_law_829 : decode cL_law 829 = .ok (.invokevirtual 102, 3) := by decide +kernel
theorem dL_law_832 : decode cL_law 832 = .ok (.aload_n 2, 1) := by decide +kernel
theorem dL_law_833 : decode cL_law 833 = .ok (.aload_n 0, 1) := by decide +kernel
theorem dL_law_834 : decode cL_law 834 = .ok (.iload_n 3, 1) := by decide +kernel
theorem dL_law_835 : decode cL_law 835 = .ok (.iconst 1, 1) := by decide +kernel
theorem dL_law_836 : decode cL_law 836 = .ok (.iadd, 1) := by decide +kernel
theorem dL_law_837 : decode cL_law 837 = .ok (.iaload, 1) := by decide +kernel
theorem dL_law_838 : decode cL_law 838 = .ok (.invokevirtual 105, 3) := by decide +kernel
theorem dL_law_841 : decode cL_law 841 = .ok (.if_icmp .eq 94, 3) := by decide +kernel
theorem dL_law_844 : decode cL_law 844 = .ok (.iconst 0, 1) := by decide +kernel
theorem dL_law_845 : decode cL_law 845 = .ok (.ireturn, 1) := by decide +kernel
theorem dL_law_846 : decode cL_law 846 = .ok (.aload_n 1, 1) := by decide +kernel
theorem dL_law_847 : decode cL_law 847 = .ok (.aload_n 0, 1) := by decide +kernel
theorem dL_law_848 : decode cL_law 848 = .ok (.iload_n 3, 1) := by decide +kernel
theorem dL_law_849 : decode cL_law 849 = .ok (.iconst 1, 1) := by decide +kernel
theorem dL_law_850 : decode cL_law 850 = .ok (.iadd, 1) := by decide +kernel
theorem dL_law_851 : decode cL_law 851 = .ok (.iaload, 1) := by decide +kernel
theorem dL_law_852 : decode cL_law 852 = .ok (.invokevirtual 106, 3) := by decide +kernel
theorem dL_law_855 : decode cL_law 855 = .ok (.aload_n 2, 1) := by decide +kernel
theorem dL_law_856 : decode cL_law 856 = .ok (.aload_n 0, 1) := by decide +kernel
theorem dL_law_857 : decode cL_law 857 = .ok (.iload_n 3, 1) := by decide +kernel
theorem dL_law_858 : decode cL_law 858 = .ok (.iconst 1, 1) := by decide +kernel
theorem dL_law_859 : decode cL_law 859 = .ok (.iadd, 1) := by decide +kernel
theorem dL_law_860 : decode cL_law 860 = .ok (.iaload, 1) := by decide +kernel
theorem dL_law_861 : decode cL_law 861 = .ok (.invokevirtual 109, 3) := by decide +kernel
theorem dL_law_864 : decode cL_law 864 = .ok (.if_icmp .eq 71, 3) := by decide +kernel
theorem dL_law_867 : decode cL_law 867 = .ok (.iconst 0, 1) := by decide +kernel
theorem dL_law_868 : decode cL_law 868 = .ok (.ireturn, 1) := by decide +kernel
theorem dL_law_869 : decode cL_law 869 = .ok (.aload_n 1, 1) := by decide +kernel
theorem dL_law_870 : decode cL_law 870 = .ok (.invokevirtual 110, 3) := by decide +kernel
theorem dL_law_873 : decode cL_law 873 = .ok (.aload_n 2, 1) := by decide +kernel
theorem dL_law_874 : decode cL_law 874 = .ok (.invokevirtual 113, 3) := by decide +kernel
theorem dL_law_877 : decode cL_law 877 = .ok (.if_icmp .eq 58, 3) := by decide +kernel
theorem dL_law_880 : decode cL_law 880 = .ok (.iconst 0, 1) := by decide +kernel
theorem dL_law_881 : decode cL_law 881 = .ok (.ireturn, 1) := by decide +kernel
theorem dL_law_882 : decode cL_law 882 = .ok (.aload_n 1, 1) := by decide +kernel
theorem dL_law_883 : decode cL_law 883 = .ok (.invokevirtual 114, 3) := by decide +kernel
theorem dL_law_886 : decode cL_law 886 = .ok (.aload_n 2, 1) := by decide +kernel
theorem dL_law_887 : decode cL_law 887 = .ok (.invokevirtual 117, 3) := by decide +kernel
theorem dL_law_890 : decode cL_law 890 = .ok (.if_icmp .eq 45, 3) := by decide +kernel
theorem dL_law_893 : decode cL_law 893 = .ok (.iconst 0, 1) := by decide +kernel
theorem dL_law_894 : decode cL_law 894 = .ok (.ireturn, 1) := by decide +kernel
theorem dL_law_895 : decode cL_law 895 = .ok (.aload_n 1, 1) := by decide +kernel
theorem dL_law_896 : decode cL_law 896 = .ok (.invokevirtual 118, 3) := by decide +kernel
theorem dL_law_899 : decode cL_law 899 = .ok (.aload_n 2, 1) := by decide +kernel
theorem dL_law_900 : decode cL_law 900 = .ok (.invokevirtual 121, 3) := by decide +kernel
theorem dL_law_903 : decode cL_law 903 = .ok (.if_icmp .eq 32, 3) := by decide +kernel
theorem dL_law_906 : decode cL_law 906 = .ok (.iconst 0, 1) := by decide +kernel
theorem dL_law_907 : decode cL_law 907 = .ok (.ireturn, 1) := by decide +kernel
theorem dL_law_908 : decode cL_law 908 = .ok (.aload_n 1, 1) := by decide +kernel
theorem dL_law_909 : decode cL_law 909 = .ok (.invokevirtual 122, 3) := by decide +kernel
theorem dL_law_912 : decode cL_law 912 = .ok (.aload_n 2, 1) := by decide +kernel
theorem dL_law_913 : decode cL_law 913 = .ok (.invokevirtual 125, 3) := by decide +kernel
theorem dL_law_916 : decode cL_law 916 = .ok (.if_icmp .eq 19, 3) := by decide +kernel
theorem dL_law_919 : decode cL_law 919 = .ok (.iconst 0, 1) := by decide +kernel
theorem dL_law_920 : decode cL_law 920 = .ok (.ireturn, 1) := by decide +kernel
theorem dL_law_921 : decode cL_law 921 = .ok (.aload_n 1, 1) := by decide +kernel
theorem dL_law_922 : decode cL_law 922 = .ok (.invokevirtual 126, 3) := by decide +kernel
theorem dL_law_925 : decode cL_law 925 = .ok (.aload_n 2, 1) := by decide +kernel
theorem dL_law_926 : decode cL_law 926 = .ok (.invokevirtual 130, 3) := by decide +kernel
theorem dL_law_929 : decode cL_law 929 = .ok (.lcmp, 1) := by decide +kernel
theorem dL_law_930 : decode cL_law 930 = .ok (.ifCond .eq 5, 3) := by decide +kernel
theorem dL_law_933 : decode cL_law 933 = .ok (.iconst 0, 1) := by decide +kernel
theorem dL_law_934 : decode cL_law 934 = .ok (.ireturn, 1) := by decide +kernel
theorem dL_law_935 : decode cL_law 935 = .ok (.iinc 3 5, 3) := by decide +kernel
theorem dL_law_938 : decode cL_law 938 = .ok (.goto (-920), 3) := by decide +kernel
theorem dL_law_941 : decode cL_law 941 = .ok (.iconst 1, 1) := by decide +kernel
theorem dL_law_942 : decode cL_law 942 = .ok (.ireturn, 1) := by decide +kernel
