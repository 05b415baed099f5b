theorem dX0_init_0 : decode cX0_init 0 = .ok (.aload_n 0, 1) := by decide +kernel
theorem dX0_init_1 : decode cX0_init 1 = .ok (.invokespecial 3, 3) := by decide +kernel
theorem dX0_init_4 : decode cX0_init 4 = .ok (.aload_n 0, 1) := by decide +kernel
theorem dX0_init_5 : decode cX0_init 5 = .ok (.bipush 20, 2) := by decide +kernel
theorem dX0_init_7 : decode cX0_init 7 = .ok (.newarray .int, 2) := by decide +kernel
theorem dX0_init_9 : decode cX0_init 9 = .ok (.putfield 11, 3) := by decide +kernel
theorem dX0_init_12 : decode cX0_init 12 = .ok (.return_, 1) := by decide +kernel
theorem dX0_isAct_0 : decode cX0_isAct 0 = .ok (.iload_n 0, 1) := by decide +kernel
theorem dX0_isAct_1 : decode cX0_isAct 1 = .ok (.ifCond .lt 12, 3) := by decide +kernel
theorem dX0_isAct_4 : decode cX0_isAct 4 = .ok (.iload_n 0, 1) := by decide +kernel
theorem dX0_isAct_5 : decode cX0_isAct 5 = .ok (.iconst 2, 1) := by decide +kernel
theorem dX0_isAct_6 : decode cX0_isAct 6 = .ok (.if_icmp .gt 7, 3) := by decide +kernel
theorem dX0_isAct_9 : decode cX0_isAct 9 = .ok (.iconst 1, 1) := by decide +kernel
theorem dX0_isAct_10 : decode cX0_isAct 10 = .ok (.goto 4, 3) := by decide +kernel
theorem dX0_isAct_13 : decode cX0_isAct 13 = .ok (.iconst 0, 1) := by decide +kernel
theorem dX0_isAct_14 : decode cX0_isAct 14 = .ok (.ireturn, 1) := by decide +kernel
theorem dX0_forgetTrace_0 : decode cX0_forgetTrace 0 = .ok (.aload_n 0, 1) := by decide +kernel
theorem dX0_forgetTrace_1 : decode cX0_forgetTrace 1 = .ok (.iconst 0, 1) := by decide +kernel
theorem dX0_forgetTrace_2 : decode cX0_forgetTrace 2 = .ok (.putfield 15, 3) := by decide +kernel
theorem dX0_forgetTrace_5 : decode cX0_forgetTrace 5 = .ok (.return_, 1) := by decide +kernel
theorem dX0_howManyRan_0 : decode cX0_howManyRan 0 = .ok (.aload_n 0, 1) := by decide +kernel
theorem dX0_howManyRan_1 : decode cX0_howManyRan 1 = .ok (.getfield 15, 3) := by decide +kernel
theorem dX0_howManyRan_4 : decode cX0_howManyRan 4 = .ok (.ireturn, 1) := by decide +kernel
theorem dX0_bodyAt_0 : decode cX0_bodyAt 0 = .ok (.iload_n 1, 1) := by decide +kernel
theorem dX0_bodyAt_1 : decode cX0_bodyAt 1 = .ok (.ifCond .lt 26, 3) := by decide +kernel
theorem dX0_bodyAt_4 : decode cX0_bodyAt 4 = .ok (.iload_n 1, 1) := by decide +kernel
theorem dX0_bodyAt_5 : decode cX0_bodyAt 5 = .ok (.aload_n 0, 1) := by decide +kernel
theorem dX0_bodyAt_6 : decode cX0_bodyAt 6 = .ok (.getfield 15, 3) := by decide +kernel
theorem dX0_bodyAt_9 : decode cX0_bodyAt 9 = .ok (.if_icmp .ge 18, 3) := by decide +kernel
theorem dX0_bodyAt_12 : decode cX0_bodyAt 12 = .ok (.iload_n 1, 1) := by decide +kernel
theorem dX0_bodyAt_13 : decode cX0_bodyAt 13 = .ok (.bipush 20, 2) := by decide +kernel
theorem dX0_bodyAt_15 : decode cX0_bodyAt 15 = .ok (.if_icmp .ge 12, 3) := by decide +kernel
theorem dX0_bodyAt_18 : decode cX0_bodyAt 18 = .ok (.aload_n 0, 1) := by decide +kernel
theorem dX0_bodyAt_19 : decode cX0_bodyAt 19 = .ok (.getfield 11, 3) := by decide +kernel
theorem dX0_bodyAt_22 : decode cX0_bodyAt 22 = .ok (.iload_n 1, 1) := by decide +kernel
theorem dX0_bodyAt_23 : decode cX0_bodyAt 23 = .ok (.iaload, 1) := by decide +kernel
theorem dX0_bodyAt_24 : decode cX0_bodyAt 24 = .ok (.goto 4, 3) := by decide +kernel
theorem dX0_bodyAt_27 : decode cX0_bodyAt 27 = .ok (.iconst (-1), 1) := by decide +kernel
theorem dX0_bodyAt_28 : decode cX0_bodyAt 28 = .ok (.ireturn, 1) := by decide +kernel
theorem dX0_actOf_0 : decode cX0_actOf 0 = .ok (.aload_n 0, 1) := by decide +kernel
theorem dX0_actOf_1 : decode cX0_actOf 1 = .ok (.iload_n 1, 1) := by decide +kernel
theorem dX0_actOf_2 : decode cX0_actOf 2 = .ok (.putfield 19, 3) := by decide +kernel
theorem dX0_actOf_5 : decode cX0_actOf 5 = .ok (.aload_n 0, 1) := by decide +kernel
theorem dX0_actOf_6 : decode cX0_actOf 6 = .ok (.iload_n 2, 1) := by decide +kernel
theorem dX0_actOf_7 : decode cX0_actOf 7 = .ok (.putfield 22, 3) := by decide +kernel
theorem dX0_actOf_10 : decode cX0_actOf 10 = .ok (.aload_n 0, 1) := by decide +kernel
theorem dX0_actOf_11 : decode cX0_actOf 11 = .ok (.iload_n 3, 1) := by decide +kernel
theorem dX0_actOf_12 : decode cX0_actOf 12 = .ok (.putfield 25, 3) := by decide +kernel
theorem dX0_actOf_15 : decode cX0_actOf 15 = .ok (.aload_n 0, 1) := by decide +kernel
theorem dX0_actOf_16 : decode cX0_actOf 16 = .ok (.aload_n 0, 1) := by decide +kernel
theorem dX0_actOf_17 : decode cX0_actOf 17 = .ok (.getfield 22, 3) := by decide +kernel
theorem dX0_actOf_20 : decode cX0_actOf 20 = .ok (.iload 4, 2) := by decide +kernel
theorem dX0_actOf_22 : decode cX0_actOf 22 = .ok (.iload 5, 2) := by decide +kernel
theorem dX0_actOf_24 : decode cX0_actOf 24 = .ok (.iconst 0, 1) := by decide +kernel
theorem dX0_actOf_25 : decode cX0_actOf 25 = .ok (.invokevirtual 28, 3) := by decide +kernel
theorem dX0_actOf_28 : decode cX0_actOf 28 = .ok (.ireturn, 1) := by decide +kernel
theorem dX0_perform_0 : decode cX0_perform 0 = .ok (.iconst 0, 1) := by decide +kernel
theorem dX0_perform_1 : decode cX0_perform 1 = .ok (.istore 5, 2) := by decide +kernel
theorem dX0_perform_3 : decode cX0_perform 3 = .ok (.iload_n 1, 1) := by decide +kernel
theorem dX0_perform_4 : decode cX0_perform 4 = .ok (.istore 6, 2) := by decide +kernel
theorem dX0_perform_6 : decode cX0_perform 6 = .ok (.iconst 0, 1) := by decide +kernel
theorem dX0_perform_7 : decode cX0_perform 7 = .ok (.istore 7, 2) := by decide +kernel
theorem dX0_perform_9 : decode cX0_perform 9 = .ok (.iload 7, 2) := by decide +kernel
theorem dX0_perform_11 : decode cX0_perform 11 = .ok (.iconst 3, 1) := by decide +kernel
theorem dX0_perform_12 : decode cX0_perform 12 = .ok (.if_icmp .ge 48, 3) := by decide +kernel
theorem dX0_perform_15 : decode cX0_perform 15 = .ok (.iload 5, 2) := by decide +kernel
theorem dX0_perform_17 : decode cX0_perform 17 = .ok (.ifCond .ne 43, 3) := by decide +kernel
theorem dX0_perform_20 : decode cX0_perform 20 = .ok (.iload 6, 2) := by decide +kernel
theorem dX0_perform_22 : decode cX0_perform 22 = .ok (.invokestatic 32, 3) := by decide +kernel
theorem dX0_perform_25 : decode cX0_perform 25 = .ok (.ifCond .eq 35, 3) := by decide +kernel
theorem dX0_perform_28 : decode cX0_perform 28 = .ok (.iload_n 2, 1) := by decide +kernel
theorem dX0_perform_29 : decode cX0_perform 29 = .ok (.invokestatic 38, 3) := by decide +kernel
theorem dX0_perform_32 : decode cX0_perform 32 = .ok (.ifCond .eq 28, 3) := by decide +kernel
theorem dX0_perform_35 : decode cX0_perform 35 = .ok (.getstatic 41, 3) := by decide +kernel
theorem dX0_perform_38 : decode cX0_perform 38 = .ok (.iload 6, 2) := by decide +kernel
theorem dX0_perform_40 : decode cX0_perform 40 = .ok (.iconst 3, 1) := by decide +kernel
theorem dX0_perform_41 : decode cX0_perform 41 = .ok (.imul, 1) := by decide +kernel
theorem dX0_perform_42 : decode cX0_perform 42 = .ok (.iload_n 2, 1) := by decide +kernel
theorem dX0_perform_43 : decode cX0_perform 43 = .ok (.iadd, 1) := by decide +kernel
theorem dX0_perform_44 : decode cX0_perform 44 = .ok (.iaload, 1) := by decide +kernel
theorem dX0_perform_45 : decode cX0_perform 45 = .ok (.istore 5, 2) := by decide +kernel
theorem dX0_perform_47 : decode cX0_perform 47 = .ok (.iload 6, 2) := by decide +kernel
theorem dX0_perform_49 : decode cX0_perform 49 = .ok (.invokestatic 44, 3) := by decide +kernel
theorem dX0_perform_52 : decode cX0_perform 52 = .ok (.istore 6, 2) := by decide +kernel
theorem dX0_perform_54 : decode cX0_perform 54 = .ok (.iinc 7 1, 3) := by decide +kernel
theorem dX0_perform_57 : decode cX0_perform 57 = .ok (.goto (-48), 3) := by decide +kernel
theorem dX0_perform_60 : decode cX0_perform 60 = .ok (.iload 5, 2) := by decide +kernel
theorem dX0_perform_62 : decode cX0_perform 62 = .ok (.ifCond .eq 10, 3) := by decide +kernel
theorem dX0_perform_65 : decode cX0_perform 65 = .ok (.iload 4, 2) := by decide +kernel
theorem dX0_perform_67 : decode cX0_perform 67 = .ok (.bipush 12, 2) := by decide +kernel
theorem dX0_perform_69 : decode cX0_perform 69 = .ok (.if_icmp .le 5, 3) := by decide +kernel
theorem dX0_perform_72 : decode cX0_perform 72 = .ok (.iconst 0, 1) := by decide +kernel
theorem dX0_perform_73 : decode cX0_perform 73 = .ok (.ireturn, 1) := by decide +kernel
theorem dX0_perform_74 : decode cX0_perform 74 = .ok (.aload_n 0, 1) := by decide +kernel
theorem dX0_perform_75 : decode cX0_perform 75 = .ok (.getfield 15, 3) := by decide +kernel
theorem dX0_perform_78 : decode cX0_perform 78 = .ok (.bipush 20, 2) := by decide +kernel
theorem dX0_perform_80 : decode cX0_perform 80 = .ok (.if_icmp .ge 14, 3) := by decide +kernel
theorem dX0_perform_83 : decode cX0_perform 83 = .ok (.aload_n 0, 1) := by decide +kernel
theorem dX0_perform_84 : decode cX0_perform 84 = .ok (.getfield 11, 3) := by decide +kernel
theorem dX0_perform_87 : decode cX0_perform 87 = .ok (.aload_n 0, 1) := by decide +kernel
theorem dX0_perform_88 : decode cX0_perform 88 = .ok (.getfield 15, 3) := by decide +kernel
theorem dX0_perform_91 : decode cX0_perform 91 = .ok (.iload 5, 2) := by decide +kernel
theorem dX0_perform_93 : decode cX0_perform 93 = .ok (.iastore, 1) := by decide +kernel
theorem dX0_perform_94 : decode cX0_perform 94 = .ok (.aload_n 0, 1) := by decide +kernel
theorem dX0_perform_95 : decode cX0_perform 95 = .ok (.dup, 1) := by decide +kernel
theorem dX0_perform_96 : decode cX0_perform 96 = .ok (.getfield 15, 3) := by decide +kernel
theorem dX0_perform_99 : decode cX0_perform 99 = .ok (.iconst 1, 1) := by decide +kernel
theorem dX0_perform_100 : decode cX0_perform 100 = .ok (.iadd, 1) := by decide +kernel
theorem dX0_perform_101 : decode cX0_perform 101 = .ok (.putfield 15, 3) := by decide +kernel
theorem dX0_perform_104 : decode cX0_perform 104 = .ok (.aload_n 0, 1) := by decide +kernel
theorem dX0_perform_105 : decode cX0_perform 105 = .ok (.iload 5, 2) := by decide +kernel
theorem dX0_perform_107 : decode cX0_perform 107 = .ok (.iload_n 3, 1) := by decide +kernel
theorem dX0_perform_108 : decode cX0_perform 108 = .ok (.iload 4, 2) := by decide +kernel
theorem dX0_perform_110 : decode cX0_perform 110 = .ok (.iconst 1, 1) := by decide +kernel
theorem dX0_perform_111 : decode cX0_perform 111 = .ok (.iadd, 1) := by decide +kernel
theorem dX0_perform_112 : decode cX0_perform 112 = .ok (.invokevirtual 48, 3) := by decide +kernel
theorem dX0_perform_115 : decode cX0_perform 115 = .ok (.ireturn, 1) := by decide +kernel
theorem dX0_run_0 : decode cX0_run 0 = .ok (.iload_n 1, 1) := by decide +kernel
theorem dX0_run_1 : decode cX0_run 1 = .ok (.lookupswitch 248 #[(10, 99), (11, 106), (12, 123), (20, 137), (30, 149), (40, 160), (50, 181), (51, 191), (60, 202), (70, 216), (71, 234)], 99) := by decide +kernel
theorem dX0_run_100 : decode cX0_run 100 = .ok (.iload_n 2, 1) := by decide +kernel
theorem dX0_run_101 : decode cX0_run 101 = .ok (.aload_n 0, 1) := by decide +kernel
theorem dX0_run_102 : decode cX0_run 102 = .ok (.getfield 19, 3) := by decide +kernel
theorem dX0_run_105 : decode cX0_run 105 = .ok (.iadd, 1) := by decide +kernel
theorem dX0_run_106 : decode cX0_run 106 = .ok (.ireturn, 1) := by decide +kernel
theorem dX0_run_107 : decode cX0_run 107 = .ok (.aload_n 0, 1) := by decide +kernel
theorem dX0_run_108 : decode cX0_run 108 = .ok (.aload_n 0, 1) := by decide +kernel
theorem dX0_run_109 : decode cX0_run 109 = .ok (.getfield 22, 3) := by decide +kernel
theorem dX0_run_112 : decode cX0_run 112 = .ok (.iconst 0, 1) := by decide +kernel
theorem dX0_run_113 : decode cX0_run 113 = .ok (.iload_n 2, 1) := by decide +kernel
theorem dX0_run_114 : decode cX0_run 114 = .ok (.iload_n 3, 1) := by decide +kernel
theorem dX0_run_115 : decode cX0_run 115 = .ok (.invokevirtual 28, 3) := by decide +kernel
theorem dX0_run_118 : decode cX0_run 118 = .ok (.aload_n 0, 1) := by decide +kernel
theorem dX0_run_119 : decode cX0_run 119 = .ok (.getfield 25, 3) := by decide +kernel
theorem dX0_run_122 : decode cX0_run 122 = .ok (.isub, 1) := by decide +kernel
theorem dX0_run_123 : decode cX0_run 123 = .ok (.ireturn, 1) := by decide +kernel
theorem dX0_run_124 : decode cX0_run 124 = .ok (.aload_n 0, 1) := by decide +kernel
theorem dX0_run_125 : decode cX0_run 125 = .ok (.aload_n 0, 1) := by decide +kernel
theorem dX0_run_126 : decode cX0_run 126 = .ok (.getfield 22, 3) := by decide +kernel
theorem dX0_run_129 : decode cX0_run 129 = .ok (.iconst 1, 1) := by decide +kernel
theorem dX0_run_130 : decode cX0_run 130 = .ok (.iload_n 2, 1) := by decide +kernel
theorem dX0_run_131 : decode cX0_run 131 = .ok (.iload_n 3, 1) := by decide +kernel
theorem dX0_run_132 : decode cX0_run 132 = .ok (.invokevirtual 28, 3) := by decide +kernel
theorem dX0_run_135 : decode cX0_run 135 = .ok (.iconst 2, 1) := by decide +kernel
theorem dX0_run_136 : decode cX0_run 136 = .ok (.imul, 1) := by decide +kernel
theorem dX0_run_137 : decode cX0_run 137 = .ok (.ireturn, 1) := by decide +kernel
theorem dX0_run_138 : decode cX0_run 138 = .ok (.aload_n 0, 1) := by decide +kernel
theorem dX0_run_139 : decode cX0_run 139 = .ok (.iconst 0, 1) := by decide +kernel
theorem dX0_run_140 : decode cX0_run 140 = .ok (.iconst 1, 1) := by decide +kernel
theorem dX0_run_141 : decode cX0_run 141 = .ok (.iload_n 2, 1) := by decide +kernel
theorem dX0_run_142 : decode cX0_run 142 = .ok (.iload_n 3, 1) := by decide +kernel
theorem dX0_run_143 : decode cX0_run 143 = .ok (.invokevirtual 28, 3) := by decide +kernel
theorem dX0_run_146 : decode cX0_run 146 = .ok (.bipush 6, 2) := by decide +kernel
theorem dX0_run_148 : decode cX0_run 148 = .ok (.ixor, 1) := by decide +kernel
theorem dX0_run_149 : decode cX0_run 149 = .ok (.ireturn, 1) := by decide +kernel
theorem dX0_run_150 : decode cX0_run 150 = .ok (.aload_n 0, 1) := by decide +kernel
theorem dX0_run_151 : decode cX0_run 151 = .ok (.iconst 0, 1) := by decide +kernel
theorem dX0_run_152 : decode cX0_run 152 = .ok (.iconst 0, 1) := by decide +kernel
theorem dX0_run_153 : decode cX0_run 153 = .ok (.iload_n 2, 1) := by decide +kernel
theorem dX0_run_154 : decode cX0_run 154 = .ok (.iconst 3, 1) := by decide +kernel
theorem dX0_run_155 : decode cX0_run 155 = .ok (.imul, 1) := by decide +kernel
theorem dX0_run_156 : decode cX0_run 156 = .ok (.iload_n 3, 1) := by decide +kernel
theorem dX0_run_157 : decode cX0_run 157 = .ok (.invokevirtual 28, 3) := by decide +kernel
theorem dX0_run_160 : decode cX0_run 160 = .ok (.ireturn, 1) := by decide +kernel
theorem dX0_run_161 : decode cX0_run 161 = .ok (.aload_n 0, 1) := by decide +kernel
theorem dX0_run_162 : decode cX0_run 162 = .ok (.iconst 0, 1) := by decide +kernel
theorem dX0_run_163 : decode cX0_run 163 = .ok (.iconst 2, 1) := by decide +kernel
theorem dX0_run_164 : decode cX0_run 164 = .ok (.iload_n 2, 1) := by decide +kernel
theorem dX0_run_165 : decode cX0_run 165 = .ok (.iload_n 3, 1) := by decide +kernel
theorem dX0_run_166 : decode cX0_run 166 = .ok (.invokevirtual 28, 3) := by decide +kernel
theorem dX0_run_169 : decode cX0_run 169 = .ok (.aload_n 0, 1) := by decide +kernel
theorem dX0_run_170 : decode cX0_run 170 = .ok (.aload_n 0, 1) := by decide +kernel
theorem dX0_run_171 : decode cX0_run 171 = .ok (.getfield 22, 3) := by decide +kernel
theorem dX0_run_174 : decode cX0_run 174 = .ok (.iconst 1, 1) := by decide +kernel
theorem dX0_run_175 : decode cX0_run 175 = .ok (.iconst 1, 1) := by decide +kernel
theorem dX0_run_176 : decode cX0_run 176 = .ok (.iload_n 3, 1) := by decide +kernel
theorem dX0_run_177 : decode cX0_run 177 = .ok (.invokevirtual 28, 3) := by decide +kernel
theorem dX0_run_180 : decode cX0_run 180 = .ok (.iadd, 1) := by decide +kernel
theorem dX0_run_181 : decode cX0_run 181 = .ok (.ireturn, 1) := by decide +kernel
theorem dX0_run_182 : decode cX0_run 182 = .ok (.aload_n 0, 1) := by decide +kernel
theorem dX0_run_183 : decode cX0_run 183 = .ok (.iconst 1, 1) := by decide +kernel
theorem dX0_run_184 : decode cX0_run 184 = .ok (.iconst 0, 1) := by decide +kernel
theorem dX0_run_185 : decode cX0_run 185 = .ok (.iload_n 2, 1) := by decide +kernel
theorem dX0_run_186 : decode cX0_run 186 = .ok (.iload_n 3, 1) := by decide +kernel
theorem dX0_run_187 : decode cX0_run 187 = .ok (.invokevirtual 28, 3) := by decide +kernel
theorem dX0_run_190 : decode cX0_run 190 = .ok (.ineg, 1) := by decide +kernel
theorem dX0_run_191 : decode cX0_run 191 = .ok (.ireturn, 1) := by decide +kernel
theorem dX0_run_192 : decode cX0_run 192 = .ok (.aload_n 0, 1) := by decide +kernel
theorem dX0_run_193 : decode cX0_run 193 = .ok (.iconst 1, 1) := by decide +kernel
theorem dX0_run_194 : decode cX0_run 194 = .ok (.iconst 1, 1) := by decide +kernel
theorem dX0_run_195 : decode cX0_run 195 = .ok (.iload_n 2, 1) := by decide +kernel
theorem dX0_run_196 : decode cX0_run 196 = .ok (.iconst 1, 1) := by decide +kernel
theorem dX0_run_197 : decode cX0_run 197 = .ok (.iadd, 1) := by decide +kernel
theorem dX0_run_198 : decode cX0_run 198 = .ok (.iload_n 3, 1) := by decide +kernel
theorem dX0_run_199 : decode cX0_run 199 = .ok (.invokevirtual 28, 3) := by decide +kernel
theorem dX0_run_202 : decode cX0_run 202 = .ok (.ireturn, 1) := by decide +kernel
theorem dX0_run_203 : decode cX0_run 203 = .ok (.aload_n 0, 1) := by decide +kernel
theorem dX0_run_204 : decode cX0_run 204 = .ok (.iconst 2, 1) := by decide +kernel
theorem dX0_run_205 : decode cX0_run 205 = .ok (.iconst 2, 1) := by decide +kernel
theorem dX0_run_206 : decode cX0_run 206 = .ok (.iload_n 2, 1) := by decide +kernel
theorem dX0_run_207 : decode cX0_run 207 = .ok (.aload_n 0, 1) := by decide +kernel
theorem dX0_run_208 : decode cX0_run 208 = .ok (.getfield 19, 3) := by decide +kernel
theorem dX0_run_211 : decode cX0_run 211 = .ok (.isub, 1) := by decide +kernel
theorem dX0_run_212 : decode cX0_run 212 = .ok (.iload_n 3, 1) := by decide +kernel
theorem dX0_run_213 : decode cX0_run 213 = .ok (.invokevirtual 28, 3) := by decide +kernel
theorem dX0_run_216 : decode cX0_run 216 = .ok (.ireturn, 1) := by decide +kernel
theorem dX0_run_217 : decode cX0_run 217 = .ok (.aload_n 0, 1) := by decide +kernel
theorem dX0_run_218 : decode cX0_run 218 = .ok (.iconst 3, 1) := by decide +kernel
theorem dX0_run_219 : decode cX0_run 219 = .ok (.iconst 1, 1) := by decide +kernel
theorem dX0_run_220 : decode cX0_run 220 = .ok (.iload_n 2, 1) := by decide +kernel
theorem dX0_run_221 : decode cX0_run 221 = .ok (.iload_n 3, 1) := by decide +kernel
theorem dX0_run_222 : decode cX0_run 222 = .ok (.invokevirtual 28, 3) := by decide +kernel
theorem dX0_run_225 : decode cX0_run 225 = .ok (.aload_n 0, 1) := by decide +kernel
theorem dX0_run_226 : decode cX0_run 226 = .ok (.iconst 3, 1) := by decide +kernel
theorem dX0_run_227 : decode cX0_run 227 = .ok (.iconst 0, 1) := by decide +kernel
theorem dX0_run_228 : decode cX0_run 228 = .ok (.iconst 2, 1) := by decide +kernel
theorem dX0_run_229 : decode cX0_run 229 = .ok (.iload_n 3, 1) := by decide +kernel
theorem dX0_run_230 : decode cX0_run 230 = .ok (.invokevirtual 28, 3) := by decide +kernel
theorem dX0_run_233 : decode cX0_run 233 = .ok (.iadd, 1) := by decide +kernel
theorem dX0_run_234 : decode cX0_run 234 = .ok (.ireturn, 1) := by decide +kernel
theorem dX0_run_235 : decode cX0_run 235 = .ok (.aload_n 0, 1) := by decide +kernel
theorem dX0_run_236 : decode cX0_run 236 = .ok (.iconst 3, 1) := by decide +kernel
theorem dX0_run_237 : decode cX0_run 237 = .ok (.iconst 0, 1) := by decide +kernel
theorem dX0_run_238 : decode cX0_run 238 = .ok (.iload_n 2, 1) := by decide +kernel
theorem dX0_run_239 : decode cX0_run 239 = .ok (.iload_n 3, 1) := by decide +kernel
theorem dX0_run_240 : decode cX0_run 240 = .ok (.invokevirtual 28, 3) := by decide +kernel
theorem dX0_run_243 : decode cX0_run 243 = .ok (.aload_n 0, 1) := by decide +kernel
theorem dX0_run_244 : decode cX0_run 244 = .ok (.getfield 25, 3) := by decide +kernel
theorem dX0_run_247 : decode cX0_run 247 = .ok (.ixor, 1) := by decide +kernel
theorem dX0_run_248 : decode cX0_run 248 = .ok (.ireturn, 1) := by decide +kernel
theorem dX0_run_249 : decode cX0_run 249 = .ok (.iconst 0, 1) := by decide +kernel
theorem dX0_run_250 : decode cX0_run 250 = .ok (.ireturn, 1) := by decide +kernel
theorem dX1_init_0 : decode cX1_init 0 = .ok (.aload_n 0, 1) := by decide +kernel
theorem dX1_init_1 : decode cX1_init 1 = .ok (.invokespecial 3, 3) := by decide +kernel
theorem dX1_init_4 : decode cX1_init 4 = .ok (.aload_n 0, 1) := by decide +kernel
theorem dX1_init_5 : decode cX1_init 5 = .ok (.new 9, 3) := by decide +kernel
theorem dX1_init_8 : decode cX1_init 8 = .ok (.dup, 1) := by decide +kernel
theorem dX1_init_9 : decode cX1_init 9 = .ok (.invokespecial 11, 3) := by decide +kernel
theorem dX1_init_12 : decode cX1_init 12 = .ok (.putfield 12, 3) := by decide +kernel
theorem dX1_init_15 : decode cX1_init 15 = .ok (.aload_n 0, 1) := by decide +kernel
theorem dX1_init_16 : decode cX1_init 16 = .ok (.bipush 6, 2) := by decide +kernel
theorem dX1_init_18 : decode cX1_init 18 = .ok (.newarray .int, 2) := by decide +kernel
theorem dX1_init_20 : decode cX1_init 20 = .ok (.putfield 18, 3) := by decide +kernel
theorem dX1_init_23 : decode cX1_init 23 = .ok (.aload_n 0, 1) := by decide +kernel
theorem dX1_init_24 : decode cX1_init 24 = .ok (.aload_n 1, 1) := by decide +kernel
theorem dX1_init_25 : decode cX1_init 25 = .ok (.putfield 22, 3) := by decide +kernel
theorem dX1_init_28 : decode cX1_init 28 = .ok (.aload_n 0, 1) := by decide +kernel
theorem dX1_init_29 : decode cX1_init 29 = .ok (.aload_n 2, 1) := by decide +kernel
theorem dX1_init_30 : decode cX1_init 30 = .ok (.putfield 25, 3) := by decide +kernel
theorem dX1_init_33 : decode cX1_init 33 = .ok (.aload_n 0, 1) := by decide +kernel
theorem dX1_init_34 : decode cX1_init 34 = .ok (.aload_n 3, 1) := by decide +kernel
theorem dX1_init_35 : decode cX1_init 35 = .ok (.putfield 29, 3) := by decide +kernel
theorem dX1_init_38 : decode cX1_init 38 = .ok (.return_, 1) := by decide +kernel
theorem dX1_behind_0 : decode cX1_behind 0 = .ok (.aload_n 0, 1) := by decide +kernel
theorem dX1_behind_1 : decode cX1_behind 1 = .ok (.getfield 12, 3) := by decide +kernel
theorem dX1_behind_4 : decode cX1_behind 4 = .ok (.aload_n 0, 1) := by decide +kernel
theorem dX1_behind_5 : decode cX1_behind 5 = .ok (.getfield 22, 3) := by decide +kernel
theorem dX1_behind_8 : decode cX1_behind 8 = .ok (.invokevirtual 33, 3) := by decide +kernel
theorem dX1_behind_11 : decode cX1_behind 11 = .ok (.aload_n 0, 1) := by decide +kernel
theorem dX1_behind_12 : decode cX1_behind 12 = .ok (.getfield 12, 3) := by decide +kernel
theorem dX1_behind_15 : decode cX1_behind 15 = .ok (.iload_n 1, 1) := by decide +kernel
theorem dX1_behind_16 : decode cX1_behind 16 = .ok (.invokevirtual 37, 3) := by decide +kernel
theorem dX1_behind_19 : decode cX1_behind 19 = .ok (.aload_n 0, 1) := by decide +kernel
theorem dX1_behind_20 : decode cX1_behind 20 = .ok (.getfield 12, 3) := by decide +kernel
theorem dX1_behind_23 : decode cX1_behind 23 = .ok (.areturn, 1) := by decide +kernel
theorem dX1_behindPlan_0 : decode cX1_behindPlan 0 = .ok (.aload_n 0, 1) := by decide +kernel
theorem dX1_behindPlan_1 : decode cX1_behindPlan 1 = .ok (.getfield 12, 3) := by decide +kernel
theorem dX1_behindPlan_4 : decode cX1_behindPlan 4 = .ok (.aload_n 0, 1) := by decide +kernel
theorem dX1_behindPlan_5 : decode cX1_behindPlan 5 = .ok (.getfield 22, 3) := by decide +kernel
theorem dX1_behindPlan_8 : decode cX1_behindPlan 8 = .ok (.invokevirtual 33, 3) := by decide +kernel
theorem dX1_behindPlan_11 : decode cX1_behindPlan 11 = .ok (.iconst 0, 1) := by decide +kernel
theorem dX1_behindPlan_12 : decode cX1_behindPlan 12 = .ok (.istore_n 1, 1) := by decide +kernel
theorem dX1_behindPlan_13 : decode cX1_behindPlan 13 = .ok (.iload_n 1, 1) := by decide +kernel
theorem dX1_behindPlan_14 : decode cX1_behindPlan 14 = .ok (.aload_n 0, 1) := by decide +kernel
theorem dX1_behindPlan_15 : decode cX1_behindPlan 15 = .ok (.getfield 25, 3) := by decide +kernel
theorem dX1_behindPlan_18 : decode cX1_behindPlan 18 = .ok (.getfield 41, 3) := by decide +kernel
theorem dX1_behindPlan_21 : decode cX1_behindPlan 21 = .ok (.if_icmp .ge 115, 3) := by decide +kernel
theorem dX1_behindPlan_24 : decode cX1_behindPlan 24 = .ok (.iload_n 1, 1) := by decide +kernel
theorem dX1_behindPlan_25 : decode cX1_behindPlan 25 = .ok (.bipush 10, 2) := by decide +kernel
theorem dX1_behindPlan_27 : decode cX1_behindPlan 27 = .ok (.if_icmp .ge 109, 3) := by decide +kernel
theorem dX1_behindPlan_30 : decode cX1_behindPlan 30 = .ok (.aload_n 0, 1) := by decide +kernel
theorem dX1_behindPlan_31 : decode cX1_behindPlan 31 = .ok (.getfield 25, 3) := by decide +kernel
theorem dX1_behindPlan_34 : decode cX1_behindPlan 34 = .ok (.getfield 47, 3) := by decide +kernel
theorem dX1_behindPlan_37 : decode cX1_behindPlan 37 = .ok (.iload_n 1, 1) := by decide +kernel
theorem dX1_behindPlan_38 : decode cX1_behindPlan 38 = .ok (.iaload, 1) := by decide +kernel
theorem dX1_behindPlan_39 : decode cX1_behindPlan 39 = .ok (.istore_n 2, 1) := by decide +kernel
theorem dX1_behindPlan_40 : decode cX1_behindPlan 40 = .ok (.aload_n 0, 1) := by decide +kernel
theorem dX1_behindPlan_41 : decode cX1_behindPlan 41 = .ok (.getfield 25, 3) := by decide +kernel
theorem dX1_behindPlan_44 : decode cX1_behindPlan 44 = .ok (.getfield 50, 3) := by decide +kernel
theorem dX1_behindPlan_47 : decode cX1_behindPlan 47 = .ok (.iload_n 1, 1) := by decide +kernel
theorem dX1_behindPlan_48 : decode cX1_behindPlan 48 = .ok (.iaload, 1) := by decide +kernel
theorem dX1_behindPlan_49 : decode cX1_behindPlan 49 = .ok (.tableswitch 63 0 2 #[27, 38, 50], 27) := by decide +kernel
theorem dX1_behindPlan_76 : decode cX1_behindPlan 76 = .ok (.aload_n 0, 1) := by decide +kernel
theorem dX1_behindPlan_77 : decode cX1_behindPlan 77 = .ok (.getfield 12, 3) := by decide +kernel
theorem dX1_behindPlan_80 : decode cX1_behindPlan 80 = .ok (.iconst 1, 1) := by decide +kernel
theorem dX1_behindPlan_81 : decode cX1_behindPlan 81 = .ok (.invokevirtual 37, 3) := by decide +kernel
theorem dX1_behindPlan_84 : decode cX1_behindPlan 84 = .ok (.goto 46, 3) := by decide +kernel
theorem dX1_behindPlan_87 : decode cX1_behindPlan 87 = .ok (.aload_n 0, 1) := by decide +kernel
theorem dX1_behindPlan_88 : decode cX1_behindPlan 88 = .ok (.getfield 12, 3) := by decide +kernel
theorem dX1_behindPlan_91 : decode cX1_behindPlan 91 = .ok (.iload_n 2, 1) := by decide +kernel
theorem dX1_behindPlan_92 : decode cX1_behindPlan 92 = .ok (.iconst 1, 1) := by decide +kernel
theorem dX1_behindPlan_93 : decode cX1_behindPlan 93 = .ok (.invokevirtual 53, 3) := by decide +kernel
theorem dX1_behindPlan_96 : decode cX1_behindPlan 96 = .ok (.goto 34, 3) := by decide +kernel
theorem dX1_behindPlan_99 : decode cX1_behindPlan 99 = .ok (.aload_n 0, 1) := by decide +kernel
theorem dX1_behindPlan_100 : decode cX1_behindPlan 100 = .ok (.getfield 12, 3) := by decide +kernel
theorem dX1_behindPlan_103 : decode cX1_behindPlan 103 = .ok (.getfield 57, 3) := by decide +kernel
theorem dX1_behindPlan_106 : decode cX1_behindPlan 106 = .ok (.iload_n 2, 1) := by decide +kernel
theorem dX1_behindPlan_107 : decode cX1_behindPlan 107 = .ok (.iconst 0, 1) := by decide +kernel
theorem dX1_behindPlan_108 : decode cX1_behindPlan 108 = .ok (.iastore, 1) := by decide +kernel
theorem dX1_behindPlan_109 : decode cX1_behindPlan 109 = .ok (.goto 21, 3) := by decide +kernel
theorem dX1_behindPlan_112 : decode cX1_behindPlan 112 = .ok (.aload_n 0, 1) := by decide +kernel
theorem dX1_behindPlan_113 : decode cX1_behindPlan 113 = .ok (.getfield 12, 3) := by decide +kernel
theorem dX1_behindPlan_116 : decode cX1_behindPlan 116 = .ok (.aload_n 0, 1) := by decide +kernel
theorem dX1_behindPlan_117 : decode cX1_behindPlan 117 = .ok (.getfield 12, 3) := by decide +kernel
theorem dX1_behindPlan_120 : decode cX1_behindPlan 120 = .ok (.getfield 60, 3) := by decide +kernel
theorem dX1_behindPlan_123 : decode cX1_behindPlan 123 = .ok (.iconst 1, 1) := by decide +kernel
theorem dX1_behindPlan_124 : decode cX1_behindPlan 124 = .ok (.iload_n 2, 1) := by decide +kernel
theorem dX1_behindPlan_125 : decode cX1_behindPlan 125 = .ok (.ishl, 1) := by decide +kernel
theorem dX1_behindPlan_126 : decode cX1_behindPlan 126 = .ok (.ixor, 1) := by decide +kernel
theorem dX1_behindPlan_127 : decode cX1_behindPlan 127 = .ok (.invokevirtual 63, 3) := by decide +kernel
theorem dX1_behindPlan_130 : decode cX1_behindPlan 130 = .ok (.iinc 1 1, 3) := by decide +kernel
theorem dX1_behindPlan_133 : decode cX1_behindPlan 133 = .ok (.goto (-120), 3) := by decide +kernel
theorem dX1_behindPlan_136 : decode cX1_behindPlan 136 = .ok (.aload_n 0, 1) := by decide +kernel
theorem dX1_behindPlan_137 : decode cX1_behindPlan 137 = .ok (.getfield 12, 3) := by decide +kernel
theorem dX1_behindPlan_140 : decode cX1_behindPlan 140 = .ok (.areturn, 1) := by decide +kernel
theorem dX1_daysUntilBald_0 : decode cX1_daysUntilBald 0 = .ok (.iconst 0, 1) := by decide +kernel
theorem dX1_daysUntilBald_1 : decode cX1_daysUntilBald 1 = .ok (.istore_n 2, 1) := by decide +kernel
theorem dX1_daysUntilBald_2 : decode cX1_daysUntilBald 2 = .ok (.iload_n 2, 1) := by decide +kernel
theorem dX1_daysUntilBald_3 : decode cX1_daysUntilBald 3 = .ok (.bipush 60, 2) := by decide +kernel
theorem dX1_daysUntilBald_5 : decode cX1_daysUntilBald 5 = .ok (.if_icmp .gt 40, 3) := by decide +kernel
theorem dX1_daysUntilBald_8 : decode cX1_daysUntilBald 8 = .ok (.aload_n 0, 1) := by decide +kernel
theorem dX1_daysUntilBald_9 : decode cX1_daysUntilBald 9 = .ok (.getfield 22, 3) := by decide +kernel
theorem dX1_daysUntilBald_12 : decode cX1_daysUntilBald 12 = .ok (.getfield 57, 3) := by decide +kernel
theorem dX1_daysUntilBald_15 : decode cX1_daysUntilBald 15 = .ok (.iload_n 1, 1) := by decide +kernel
theorem dX1_daysUntilBald_16 : decode cX1_daysUntilBald 16 = .ok (.iaload, 1) := by decide +kernel
theorem dX1_daysUntilBald_17 : decode cX1_daysUntilBald 17 = .ok (.aload_n 0, 1) := by decide +kernel
theorem dX1_daysUntilBald_18 : decode cX1_daysUntilBald 18 = .ok (.getfield 22, 3) := by decide +kernel
theorem dX1_daysUntilBald_21 : decode cX1_daysUntilBald 21 = .ok (.iload_n 1, 1) := by decide +kernel
theorem dX1_daysUntilBald_22 : decode cX1_daysUntilBald 22 = .ok (.iload_n 2, 1) := by decide +kernel
theorem dX1_daysUntilBald_23 : decode cX1_daysUntilBald 23 = .ok (.invokevirtual 66, 3) := by decide +kernel
theorem dX1_daysUntilBald_26 : decode cX1_daysUntilBald 26 = .ok (.iadd, 1) := by decide +kernel
theorem dX1_daysUntilBald_27 : decode cX1_daysUntilBald 27 = .ok (.aload_n 0, 1) := by decide +kernel
theorem dX1_daysUntilBald_28 : decode cX1_daysUntilBald 28 = .ok (.getfield 22, 3) := by decide +kernel
theorem dX1_daysUntilBald_31 : decode cX1_daysUntilBald 31 = .ok (.getfield 70, 3) := by decide +kernel
theorem dX1_daysUntilBald_34 : decode cX1_daysUntilBald 34 = .ok (.if_icmp .lt 5, 3) := by decide +kernel
theorem dX1_daysUntilBald_37 : decode cX1_daysUntilBald 37 = .ok (.iload_n 2, 1) := by decide +kernel
theorem dX1_daysUntilBald_38 : decode cX1_daysUntilBald 38 = .ok (.ireturn, 1) := by decide +kernel
theorem dX1_daysUntilBald_39 : decode cX1_daysUntilBald 39 = .ok (.iinc 2 1, 3) := by decide +kernel
theorem dX1_daysUntilBald_42 : decode cX1_daysUntilBald 42 = .ok (.goto (-40), 3) := by decide +kernel
theorem dX1_daysUntilBald_45 : decode cX1_daysUntilBald 45 = .ok (.bipush (-5), 2) := by decide +kernel
theorem dX1_daysUntilBald_47 : decode cX1_daysUntilBald 47 = .ok (.ireturn, 1) := by decide +kernel
theorem dX1_firstWorn_0 : decode cX1_firstWorn 0 = .ok (.aload_n 0, 1) := by decide +kernel
theorem dX1_firstWorn_1 : decode cX1_firstWorn 1 = .ok (.getfield 22, 3) := by decide +kernel
theorem dX1_firstWorn_4 : decode cX1_firstWorn 4 = .ok (.invokevirtual 73, 3) := by decide +kernel
theorem dX1_firstWorn_7 : decode cX1_firstWorn 7 = .ok (.istore_n 1, 1) := by decide +kernel
theorem dX1_firstWorn_8 : decode cX1_firstWorn 8 = .ok (.aload_n 0, 1) := by decide +kernel
theorem dX1_firstWorn_9 : decode cX1_firstWorn 9 = .ok (.getfield 12, 3) := by decide +kernel
theorem dX1_firstWorn_12 : decode cX1_firstWorn 12 = .ok (.aload_n 0, 1) := by decide +kernel
theorem dX1_firstWorn_13 : decode cX1_firstWorn 13 = .ok (.getfield 22, 3) := by decide +kernel
theorem dX1_firstWorn_16 : decode cX1_firstWorn 16 = .ok (.invokevirtual 33, 3) := by decide +kernel
theorem dX1_firstWorn_19 : decode cX1_firstWorn 19 = .ok (.iconst 1, 1) := by decide +kernel
theorem dX1_firstWorn_20 : decode cX1_firstWorn 20 = .ok (.istore_n 2, 1) := by decide +kernel
theorem dX1_firstWorn_21 : decode cX1_firstWorn 21 = .ok (.iload_n 2, 1) := by decide +kernel
theorem dX1_firstWorn_22 : decode cX1_firstWorn 22 = .ok (.bipush 60, 2) := by decide +kernel
theorem dX1_firstWorn_24 : decode cX1_firstWorn 24 = .ok (.if_icmp .gt 38, 3) := by decide +kernel
theorem dX1_firstWorn_27 : decode cX1_firstWorn 27 = .ok (.aload_n 0, 1) := by decide +kernel
theorem dX1_firstWorn_28 : decode cX1_firstWorn 28 = .ok (.getfield 12, 3) := by decide +kernel
theorem dX1_firstWorn_31 : decode cX1_firstWorn 31 = .ok (.iconst 1, 1) := by decide +kernel
theorem dX1_firstWorn_32 : decode cX1_firstWorn 32 = .ok (.invokevirtual 37, 3) := by decide +kernel
theorem dX1_firstWorn_35 : decode cX1_firstWorn 35 = .ok (.aload_n 0, 1) := by decide +kernel
theorem dX1_firstWorn_36 : decode cX1_firstWorn 36 = .ok (.getfield 12, 3) := by decide +kernel
theorem dX1_firstWorn_39 : decode cX1_firstWorn 39 = .ok (.invokevirtual 73, 3) := by decide +kernel
theorem dX1_firstWorn_42 : decode cX1_firstWorn 42 = .ok (.iload_n 1, 1) := by decide +kernel
theorem dX1_firstWorn_43 : decode cX1_firstWorn 43 = .ok (.iconst (-1), 1) := by decide +kernel
theorem dX1_firstWorn_44 : decode cX1_firstWorn 44 = .ok (.ixor, 1) := by decide +kernel
theorem dX1_firstWorn_45 : decode cX1_firstWorn 45 = .ok (.iand, 1) := by decide +kernel
theorem dX1_firstWorn_46 : decode cX1_firstWorn 46 = .ok (.istore_n 3, 1) := by decide +kernel
theorem dX1_firstWorn_47 : decode cX1_firstWorn 47 = .ok (.iload_n 3, 1) := by decide +kernel
theorem dX1_firstWorn_48 : decode cX1_firstWorn 48 = .ok (.ifCond .eq 8, 3) := by decide +kernel
theorem dX1_firstWorn_51 : decode cX1_firstWorn 51 = .ok (.iload_n 3, 1) := by decide +kernel
theorem dX1_firstWorn_52 : decode cX1_firstWorn 52 = .ok (.invokestatic 77, 3) := by decide +kernel
theorem dX1_firstWorn_55 : decode cX1_firstWorn 55 = .ok (.ireturn, 1) := by decide +kernel
theorem dX1_firstWorn_56 : decode cX1_firstWorn 56 = .ok (.iinc 2 1, 3) := by decide +kernel
theorem dX1_firstWorn_59 : decode cX1_firstWorn 59 = .ok (.goto (-38), 3) := by decide +kernel
theorem dX1_firstWorn_62 : decode cX1_firstWorn 62 = .ok (.bipush (-5), 2) := by decide +kernel
theorem dX1_firstWorn_64 : decode cX1_firstWorn 64 = .ok (.ireturn, 1) := by decide +kernel
theorem dX1_fewestWhoLeft_0 : decode cX1_fewestWhoLeft 0 = .ok (.aload_n 0, 1) := by decide +kernel
theorem dX1_fewestWhoLeft_1 : decode cX1_fewestWhoLeft 1 = .ok (.iload_n 2, 1) := by decide +kernel
theorem dX1_fewestWhoLeft_2 : decode cX1_fewestWhoLeft 2 = .ok (.invokevirtual 83, 3) := by decide +kernel
theorem dX1_fewestWhoLeft_5 : decode cX1_fewestWhoLeft 5 = .ok (.bipush (-5), 2) := by decide +kernel
theorem dX1_fewestWhoLeft_7 : decode cX1_fewestWhoLeft 7 = .ok (.istore_n 3, 1) := by decide +kernel
theorem dX1_fewestWhoLeft_8 : decode cX1_fewestWhoLeft 8 = .ok (.iconst 0, 1) := by decide +kernel
theorem dX1_fewestWhoLeft_9 : decode cX1_fewestWhoLeft 9 = .ok (.istore 4, 2) := by decide +kernel
theorem dX1_fewestWhoLeft_11 : decode cX1_fewestWhoLeft 11 = .ok (.iload 4, 2) := by decide +kernel
theorem dX1_fewestWhoLeft_13 : decode cX1_fewestWhoLeft 13 = .ok (.iconst 1, 1) := by decide +kernel
theorem dX1_fewestWhoLeft_14 : decode cX1_fewestWhoLeft 14 = .ok (.aload_n 0, 1) := by decide +kernel
theorem dX1_fewestWhoLeft_15 : decode cX1_fewestWhoLeft 15 = .ok (.getfield 22, 3) := by decide +kernel
theorem dX1_fewestWhoLeft_18 : decode cX1_fewestWhoLeft 18 = .ok (.getfield 86, 3) := by decide +kernel
theorem dX1_fewestWhoLeft_21 : decode cX1_fewestWhoLeft 21 = .ok (.ishl, 1) := by decide +kernel
theorem dX1_fewestWhoLeft_22 : decode cX1_fewestWhoLeft 22 = .ok (.if_icmp .ge 50, 3) := by decide +kernel
theorem dX1_fewestWhoLeft_25 : decode cX1_fewestWhoLeft 25 = .ok (.iload_n 3, 1) := by decide +kernel
theorem dX1_fewestWhoLeft_26 : decode cX1_fewestWhoLeft 26 = .ok (.ifCond .lt 15, 3) := by decide +kernel
theorem dX1_fewestWhoLeft_29 : decode cX1_fewestWhoLeft 29 = .ok (.iload 4, 2) := by decide +kernel
theorem dX1_fewestWhoLeft_31 : decode cX1_fewestWhoLeft 31 = .ok (.invokestatic 89, 3) := by decide +kernel
theorem dX1_fewestWhoLeft_34 : decode cX1_fewestWhoLeft 34 = .ok (.iload_n 3, 1) := by decide +kernel
theorem dX1_fewestWhoLeft_35 : decode cX1_fewestWhoLeft 35 = .ok (.invokestatic 89, 3) := by decide +kernel
theorem dX1_fewestWhoLeft_38 : decode cX1_fewestWhoLeft 38 = .ok (.if_icmp .ge 7, 3) := by decide +kernel
theorem dX1_fewestWhoLeft_41 : decode cX1_fewestWhoLeft 41 = .ok (.iconst 1, 1) := by decide +kernel
theorem dX1_fewestWhoLeft_42 : decode cX1_fewestWhoLeft 42 = .ok (.goto 4, 3) := by decide +kernel
theorem dX1_fewestWhoLeft_45 : decode cX1_fewestWhoLeft 45 = .ok (.iconst 0, 1) := by decide +kernel
theorem dX1_fewestWhoLeft_46 : decode cX1_fewestWhoLeft 46 = .ok (.istore 5, 2) := by decide +kernel
theorem dX1_fewestWhoLeft_48 : decode cX1_fewestWhoLeft 48 = .ok (.aload_n 0, 1) := by decide +kernel
theorem dX1_fewestWhoLeft_49 : decode cX1_fewestWhoLeft 49 = .ok (.iload 4, 2) := by decide +kernel
theorem dX1_fewestWhoLeft_51 : decode cX1_fewestWhoLeft 51 = .ok (.iload_n 1, 1) := by decide +kernel
theorem dX1_fewestWhoLeft_52 : decode cX1_fewestWhoLeft 52 = .ok (.invokevirtual 92, 3) := by decide +kernel
theorem dX1_fewestWhoLeft_55 : decode cX1_fewestWhoLeft 55 = .ok (.ifCond .eq 11, 3) := by decide +kernel
theorem dX1_fewestWhoLeft_58 : decode cX1_fewestWhoLeft 58 = .ok (.iload 5, 2) := by decide +kernel
theorem dX1_fewestWhoLeft_60 : decode cX1_fewestWhoLeft 60 = .ok (.ifCond .eq 6, 3) := by decide +kernel
theorem dX1_fewestWhoLeft_63 : decode cX1_fewestWhoLeft 63 = .ok (.iload 4, 2) := by decide +kernel
theorem dX1_fewestWhoLeft_65 : decode cX1_fewestWhoLeft 65 = .ok (.istore_n 3, 1) := by decide +kernel
theorem dX1_fewestWhoLeft_66 : decode cX1_fewestWhoLeft 66 = .ok (.iinc 4 1, 3) := by decide +kernel
theorem dX1_fewestWhoLeft_69 : decode cX1_fewestWhoLeft 69 = .ok (.goto (-58), 3) := by decide +kernel
theorem dX1_fewestWhoLeft_72 : decode cX1_fewestWhoLeft 72 = .ok (.iload_n 3, 1) := by decide +kernel
theorem dX1_fewestWhoLeft_73 : decode cX1_fewestWhoLeft 73 = .ok (.ireturn, 1) := by decide +kernel
theorem dX1_setsWhoLeft_0 : decode cX1_setsWhoLeft 0 = .ok (.aload_n 0, 1) := by decide +kernel
theorem dX1_setsWhoLeft_1 : decode cX1_setsWhoLeft 1 = .ok (.iload_n 2, 1) := by decide +kernel
theorem dX1_setsWhoLeft_2 : decode cX1_setsWhoLeft 2 = .ok (.invokevirtual 83, 3) := by decide +kernel
theorem dX1_setsWhoLeft_5 : decode cX1_setsWhoLeft 5 = .ok (.iconst 0, 1) := by decide +kernel
theorem dX1_setsWhoLeft_6 : decode cX1_setsWhoLeft 6 = .ok (.istore_n 3, 1) := by decide +kernel
theorem dX1_setsWhoLeft_7 : decode cX1_setsWhoLeft 7 = .ok (.iconst 0, 1) := by decide +kernel
theorem dX1_setsWhoLeft_8 : decode cX1_setsWhoLeft 8 = .ok (.istore 4, 2) := by decide +kernel
theorem dX1_setsWhoLeft_10 : decode cX1_setsWhoLeft 10 = .ok (.iload 4, 2) := by decide +kernel
theorem dX1_setsWhoLeft_12 : decode cX1_setsWhoLeft 12 = .ok (.iconst 1, 1) := by decide +kernel
theorem dX1_setsWhoLeft_13 : decode cX1_setsWhoLeft 13 = .ok (.aload_n 0, 1) := by decide +kernel
theorem dX1_setsWhoLeft_14 : decode cX1_setsWhoLeft 14 = .ok (.getfield 22, 3) := by decide +kernel
theorem dX1_setsWhoLeft_17 : decode cX1_setsWhoLeft 17 = .ok (.getfield 86, 3) := by decide +kernel
theorem dX1_setsWhoLeft_20 : decode cX1_setsWhoLeft 20 = .ok (.ishl, 1) := by decide +kernel
theorem dX1_setsWhoLeft_21 : decode cX1_setsWhoLeft 21 = .ok (.if_icmp .ge 22, 3) := by decide +kernel
theorem dX1_setsWhoLeft_24 : decode cX1_setsWhoLeft 24 = .ok (.aload_n 0, 1) := by decide +kernel
theorem dX1_setsWhoLeft_25 : decode cX1_setsWhoLeft 25 = .ok (.iload 4, 2) := by decide +kernel
theorem dX1_setsWhoLeft_27 : decode cX1_setsWhoLeft 27 = .ok (.iload_n 1, 1) := by decide +kernel
theorem dX1_setsWhoLeft_28 : decode cX1_setsWhoLeft 28 = .ok (.invokevirtual 92, 3) := by decide +kernel
theorem dX1_setsWhoLeft_31 : decode cX1_setsWhoLeft 31 = .ok (.ifCond .eq 6, 3) := by decide +kernel
theorem dX1_setsWhoLeft_34 : decode cX1_setsWhoLeft 34 = .ok (.iinc 3 1, 3) := by decide +kernel
theorem dX1_setsWhoLeft_37 : decode cX1_setsWhoLeft 37 = .ok (.iinc 4 1, 3) := by decide +kernel
theorem dX1_setsWhoLeft_40 : decode cX1_setsWhoLeft 40 = .ok (.goto (-30), 3) := by decide +kernel
theorem dX1_setsWhoLeft_43 : decode cX1_setsWhoLeft 43 = .ok (.iload_n 3, 1) := by decide +kernel
theorem dX1_setsWhoLeft_44 : decode cX1_setsWhoLeft 44 = .ok (.ireturn, 1) := by decide +kernel
theorem dX1_takePrints_0 : decode cX1_takePrints 0 = .ok (.iconst 0, 1) := by decide +kernel
theorem dX1_takePrints_1 : decode cX1_takePrints 1 = .ok (.istore_n 2, 1) := by decide +kernel
theorem dX1_takePrints_2 : decode cX1_takePrints 2 = .ok (.iload_n 2, 1) := by decide +kernel
theorem dX1_takePrints_3 : decode cX1_takePrints 3 = .ok (.aload_n 0, 1) := by decide +kernel
theorem dX1_takePrints_4 : decode cX1_takePrints 4 = .ok (.getfield 22, 3) := by decide +kernel
theorem dX1_takePrints_7 : decode cX1_takePrints 7 = .ok (.getfield 86, 3) := by decide +kernel
theorem dX1_takePrints_10 : decode cX1_takePrints 10 = .ok (.if_icmp .ge 24, 3) := by decide +kernel
theorem dX1_takePrints_13 : decode cX1_takePrints 13 = .ok (.aload_n 0, 1) := by decide +kernel
theorem dX1_takePrints_14 : decode cX1_takePrints 14 = .ok (.getfield 18, 3) := by decide +kernel
theorem dX1_takePrints_17 : decode cX1_takePrints 17 = .ok (.iload_n 2, 1) := by decide +kernel
theorem dX1_takePrints_18 : decode cX1_takePrints 18 = .ok (.aload_n 0, 1) := by decide +kernel
theorem dX1_takePrints_19 : decode cX1_takePrints 19 = .ok (.getfield 22, 3) := by decide +kernel
theorem dX1_takePrints_22 : decode cX1_takePrints 22 = .ok (.iload_n 2, 1) := by decide +kernel
theorem dX1_takePrints_23 : decode cX1_takePrints 23 = .ok (.iload_n 1, 1) := by decide +kernel
theorem dX1_takePrints_24 : decode cX1_takePrints 24 = .ok (.invokevirtual 96, 3) := by decide +kernel
theorem dX1_takePrints_27 : decode cX1_takePrints 27 = .ok (.iastore, 1) := by decide +kernel
theorem dX1_takePrints_28 : decode cX1_takePrints 28 = .ok (.iinc 2 1, 3) := by decide +kernel
theorem dX1_takePrints_31 : decode cX1_takePrints 31 = .ok (.goto (-29), 3) := by decide +kernel
theorem dX1_takePrints_34 : decode cX1_takePrints 34 = .ok (.return_, 1) := by decide +kernel
theorem dX1_hasLeft_0 : decode cX1_hasLeft 0 = .ok (.iload_n 1, 1) := by decide +kernel
theorem dX1_hasLeft_1 : decode cX1_hasLeft 1 = .ok (.aload_n 0, 1) := by decide +kernel
theorem dX1_hasLeft_2 : decode cX1_hasLeft 2 = .ok (.getfield 22, 3) := by decide +kernel
theorem dX1_hasLeft_5 : decode cX1_hasLeft 5 = .ok (.getfield 99, 3) := by decide +kernel
theorem dX1_hasLeft_8 : decode cX1_hasLeft 8 = .ok (.iand, 1) := by decide +kernel
theorem dX1_hasLeft_9 : decode cX1_hasLeft 9 = .ok (.ifCond .eq 5, 3) := by decide +kernel
theorem dX1_hasLeft_12 : decode cX1_hasLeft 12 = .ok (.iconst 0, 1) := by decide +kernel
theorem dX1_hasLeft_13 : decode cX1_hasLeft 13 = .ok (.ireturn, 1) := by decide +kernel
theorem dX1_hasLeft_14 : decode cX1_hasLeft 14 = .ok (.iconst 0, 1) := by decide +kernel
theorem dX1_hasLeft_15 : decode cX1_hasLeft 15 = .ok (.istore_n 3, 1) := by decide +kernel
theorem dX1_hasLeft_16 : decode cX1_hasLeft 16 = .ok (.iconst 0, 1) := by decide +kernel
theorem dX1_hasLeft_17 : decode cX1_hasLeft 17 = .ok (.istore 4, 2) := by decide +kernel
theorem dX1_hasLeft_19 : decode cX1_hasLeft 19 = .ok (.iload 4, 2) := by decide +kernel
theorem dX1_hasLeft_21 : decode cX1_hasLeft 21 = .ok (.aload_n 0, 1) := by decide +kernel
theorem dX1_hasLeft_22 : decode cX1_hasLeft 22 = .ok (.getfield 22, 3) := by decide +kernel
theorem dX1_hasLeft_25 : decode cX1_hasLeft 25 = .ok (.getfield 86, 3) := by decide +kernel
theorem dX1_hasLeft_28 : decode cX1_hasLeft 28 = .ok (.if_icmp .ge 28, 3) := by decide +kernel
theorem dX1_hasLeft_31 : decode cX1_hasLeft 31 = .ok (.iload_n 1, 1) := by decide +kernel
theorem dX1_hasLeft_32 : decode cX1_hasLeft 32 = .ok (.iload 4, 2) := by decide +kernel
theorem dX1_hasLeft_34 : decode cX1_hasLeft 34 = .ok (.ishr, 1) := by decide +kernel
theorem dX1_hasLeft_35 : decode cX1_hasLeft 35 = .ok (.iconst 1, 1) := by decide +kernel
theorem dX1_hasLeft_36 : decode cX1_hasLeft 36 = .ok (.iand, 1) := by decide +kernel
theorem dX1_hasLeft_37 : decode cX1_hasLeft 37 = .ok (.ifCond .eq 13, 3) := by decide +kernel
theorem dX1_hasLeft_40 : decode cX1_hasLeft 40 = .ok (.iload_n 3, 1) := by decide +kernel
theorem dX1_hasLeft_41 : decode cX1_hasLeft 41 = .ok (.aload_n 0, 1) := by decide +kernel
theorem dX1_hasLeft_42 : decode cX1_hasLeft 42 = .ok (.getfield 18, 3) := by decide +kernel
theorem dX1_hasLeft_45 : decode cX1_hasLeft 45 = .ok (.iload 4, 2) := by decide +kernel
theorem dX1_hasLeft_47 : decode cX1_hasLeft 47 = .ok (.iaload, 1) := by decide +kernel
theorem dX1_hasLeft_48 : decode cX1_hasLeft 48 = .ok (.ior, 1) := by decide +kernel
theorem dX1_hasLeft_49 : decode cX1_hasLeft 49 = .ok (.istore_n 3, 1) := by decide +kernel
theorem dX1_hasLeft_50 : decode cX1_hasLeft 50 = .ok (.iinc 4 1, 3) := by decide +kernel
theorem dX1_hasLeft_53 : decode cX1_hasLeft 53 = .ok (.goto (-34), 3) := by decide +kernel
theorem dX1_hasLeft_56 : decode cX1_hasLeft 56 = .ok (.iload_n 3, 1) := by decide +kernel
theorem dX1_hasLeft_57 : decode cX1_hasLeft 57 = .ok (.iload_n 2, 1) := by decide +kernel
theorem dX1_hasLeft_58 : decode cX1_hasLeft 58 = .ok (.if_icmp .ne 7, 3) := by decide +kernel
theorem dX1_hasLeft_61 : decode cX1_hasLeft 61 = .ok (.iconst 1, 1) := by decide +kernel
theorem dX1_hasLeft_62 : decode cX1_hasLeft 62 = .ok (.goto 4, 3) := by decide +kernel
theorem dX1_hasLeft_65 : decode cX1_hasLeft 65 = .ok (.iconst 0, 1) := by decide +kernel
theorem dX1_hasLeft_66 : decode cX1_hasLeft 66 = .ok (.ireturn, 1) := by decide +kernel
theorem dX1_bestFurniture_0 : decode cX1_bestFurniture 0 = .ok (.aload_n 0, 1) := by decide +kernel
theorem dX1_bestFurniture_1 : decode cX1_bestFurniture 1 = .ok (.invokevirtual 102, 3) := by decide +kernel
theorem dX1_bestFurniture_4 : decode cX1_bestFurniture 4 = .ok (.istore_n 1, 1) := by decide +kernel
theorem dX1_bestFurniture_5 : decode cX1_bestFurniture 5 = .ok (.aload_n 0, 1) := by decide +kernel
theorem dX1_bestFurniture_6 : decode cX1_bestFurniture 6 = .ok (.bipush 10, 2) := by decide +kernel
theorem dX1_bestFurniture_8 : decode cX1_bestFurniture 8 = .ok (.invokevirtual 105, 3) := by decide +kernel
theorem dX1_bestFurniture_11 : decode cX1_bestFurniture 11 = .ok (.invokevirtual 109, 3) := by decide +kernel
theorem dX1_bestFurniture_14 : decode cX1_bestFurniture 14 = .ok (.istore_n 2, 1) := by decide +kernel
theorem dX1_bestFurniture_15 : decode cX1_bestFurniture 15 = .ok (.bipush (-5), 2) := by decide +kernel
theorem dX1_bestFurniture_17 : decode cX1_bestFurniture 17 = .ok (.istore_n 3, 1) := by decide +kernel
theorem dX1_bestFurniture_18 : decode cX1_bestFurniture 18 = .ok (.iconst 0, 1) := by decide +kernel
theorem dX1_bestFurniture_19 : decode cX1_bestFurniture 19 = .ok (.istore 4, 2) := by decide +kernel
theorem dX1_bestFurniture_21 : decode cX1_bestFurniture 21 = .ok (.iload 4, 2) := by decide +kernel
theorem dX1_bestFurniture_23 : decode cX1_bestFurniture 23 = .ok (.bipush 16, 2) := by decide +kernel
theorem dX1_bestFurniture_25 : decode cX1_bestFurniture 25 = .ok (.if_icmp .ge 123, 3) := by decide +kernel
theorem dX1_bestFurniture_28 : decode cX1_bestFurniture 28 = .ok (.iload 4, 2) := by decide +kernel
theorem dX1_bestFurniture_30 : decode cX1_bestFurniture 30 = .ok (.istore 5, 2) := by decide +kernel
theorem dX1_bestFurniture_32 : decode cX1_bestFurniture 32 = .ok (.iload 5, 2) := by decide +kernel
theorem dX1_bestFurniture_34 : decode cX1_bestFurniture 34 = .ok (.bipush 16, 2) := by decide +kernel
theorem dX1_bestFurniture_36 : decode cX1_bestFurniture 36 = .ok (.if_icmp .ge 106, 3) := by decide +kernel
theorem dX1_bestFurniture_39 : decode cX1_bestFurniture 39 = .ok (.iconst 1, 1) := by decide +kernel
theorem dX1_bestFurniture_40 : decode cX1_bestFurniture 40 = .ok (.iload 4, 2) := by decide +kernel
theorem dX1_bestFurniture_42 : decode cX1_bestFurniture 42 = .ok (.ishl, 1) := by decide +kernel
theorem dX1_bestFurniture_43 : decode cX1_bestFurniture 43 = .ok (.iconst 1, 1) := by decide +kernel
theorem dX1_bestFurniture_44 : decode cX1_bestFurniture 44 = .ok (.iload 5, 2) := by decide +kernel
theorem dX1_bestFurniture_46 : decode cX1_bestFurniture 46 = .ok (.ishl, 1) := by decide +kernel
theorem dX1_bestFurniture_47 : decode cX1_bestFurniture 47 = .ok (.ior, 1) := by decide +kernel
theorem dX1_bestFurniture_48 : decode cX1_bestFurniture 48 = .ok (.istore 6, 2) := by decide +kernel
theorem dX1_bestFurniture_50 : decode cX1_bestFurniture 50 = .ok (.iload 6, 2) := by decide +kernel
theorem dX1_bestFurniture_52 : decode cX1_bestFurniture 52 = .ok (.iload_n 1, 1) := by decide +kernel
theorem dX1_bestFurniture_53 : decode cX1_bestFurniture 53 = .ok (.iconst (-1), 1) := by decide +kernel
theorem dX1_bestFurniture_54 : decode cX1_bestFurniture 54 = .ok (.ixor, 1) := by decide +kernel
theorem dX1_bestFurniture_55 : decode cX1_bestFurniture 55 = .ok (.iand, 1) := by decide +kernel
theorem dX1_bestFurniture_56 : decode cX1_bestFurniture 56 = .ok (.ifCond .eq 6, 3) := by decide +kernel
theorem dX1_bestFurniture_59 : decode cX1_bestFurniture 59 = .ok (.goto 77, 3) := by decide +kernel
theorem dX1_bestFurniture_62 : decode cX1_bestFurniture 62 = .ok (.aload_n 0, 1) := by decide +kernel
theorem dX1_bestFurniture_63 : decode cX1_bestFurniture 63 = .ok (.getfield 12, 3) := by decide +kernel
theorem dX1_bestFurniture_66 : decode cX1_bestFurniture 66 = .ok (.aload_n 0, 1) := by decide +kernel
theorem dX1_bestFurniture_67 : decode cX1_bestFurniture 67 = .ok (.getfield 22, 3) := by decide +kernel
theorem dX1_bestFurniture_70 : decode cX1_bestFurniture 70 = .ok (.invokevirtual 33, 3) := by decide +kernel
theorem dX1_bestFurniture_73 : decode cX1_bestFurniture 73 = .ok (.aload_n 0, 1) := by decide +kernel
theorem dX1_bestFurniture_74 : decode cX1_bestFurniture 74 = .ok (.getfield 12, 3) := by decide +kernel
theorem dX1_bestFurniture_77 : decode cX1_bestFurniture 77 = .ok (.aload_n 0, 1) := by decide +kernel
theorem dX1_bestFurniture_78 : decode cX1_bestFurniture 78 = .ok (.getfield 22, 3) := by decide +kernel
theorem dX1_bestFurniture_81 : decode cX1_bestFurniture 81 = .ok (.getfield 60, 3) := by decide +kernel
theorem dX1_bestFurniture_84 : decode cX1_bestFurniture 84 = .ok (.iload 6, 2) := by decide +kernel
theorem dX1_bestFurniture_86 : decode cX1_bestFurniture 86 = .ok (.ior, 1) := by decide +kernel
theorem dX1_bestFurniture_87 : decode cX1_bestFurniture 87 = .ok (.invokevirtual 63, 3) := by decide +kernel
theorem dX1_bestFurniture_90 : decode cX1_bestFurniture 90 = .ok (.aload_n 0, 1) := by decide +kernel
theorem dX1_bestFurniture_91 : decode cX1_bestFurniture 91 = .ok (.getfield 12, 3) := by decide +kernel
theorem dX1_bestFurniture_94 : decode cX1_bestFurniture 94 = .ok (.bipush 10, 2) := by decide +kernel
theorem dX1_bestFurniture_96 : decode cX1_bestFurniture 96 = .ok (.invokevirtual 37, 3) := by decide +kernel
theorem dX1_bestFurniture_99 : decode cX1_bestFurniture 99 = .ok (.aload_n 0, 1) := by decide +kernel
theorem dX1_bestFurniture_100 : decode cX1_bestFurniture 100 = .ok (.getfield 12, 3) := by decide +kernel
theorem dX1_bestFurniture_103 : decode cX1_bestFurniture 103 = .ok (.invokevirtual 109, 3) := by decide +kernel
theorem dX1_bestFurniture_106 : decode cX1_bestFurniture 106 = .ok (.istore 7, 2) := by decide +kernel
theorem dX1_bestFurniture_108 : decode cX1_bestFurniture 108 = .ok (.iload 7, 2) := by decide +kernel
theorem dX1_bestFurniture_110 : decode cX1_bestFurniture 110 = .ok (.iload_n 2, 1) := by decide +kernel
theorem dX1_bestFurniture_111 : decode cX1_bestFurniture 111 = .ok (.if_icmp .lt 19, 3) := by decide +kernel
theorem dX1_bestFurniture_114 : decode cX1_bestFurniture 114 = .ok (.iload 7, 2) := by decide +kernel
theorem dX1_bestFurniture_116 : decode cX1_bestFurniture 116 = .ok (.iload_n 2, 1) := by decide +kernel
theorem dX1_bestFurniture_117 : decode cX1_bestFurniture 117 = .ok (.if_icmp .ne 19, 3) := by decide +kernel
theorem dX1_bestFurniture_120 : decode cX1_bestFurniture 120 = .ok (.iload_n 3, 1) := by decide +kernel
theorem dX1_bestFurniture_121 : decode cX1_bestFurniture 121 = .ok (.ifCond .lt 15, 3) := by decide +kernel
theorem dX1_bestFurniture_124 : decode cX1_bestFurniture 124 = .ok (.iload 6, 2) := by decide +kernel
theorem dX1_bestFurniture_126 : decode cX1_bestFurniture 126 = .ok (.iload_n 3, 1) := by decide +kernel
theorem dX1_bestFurniture_127 : decode cX1_bestFurniture 127 = .ok (.if_icmp .ge 9, 3) := by decide +kernel
theorem dX1_bestFurniture_130 : decode cX1_bestFurniture 130 = .ok (.iload 7, 2) := by decide +kernel
theorem dX1_bestFurniture_132 : decode cX1_bestFurniture 132 = .ok (.istore_n 2, 1) := by decide +kernel
theorem dX1_bestFurniture_133 : decode cX1_bestFurniture 133 = .ok (.iload 6, 2) := by decide +kernel
theorem dX1_bestFurniture_135 : decode cX1_bestFurniture 135 = .ok (.istore_n 3, 1) := by decide +kernel
theorem dX1_bestFurniture_136 : decode cX1_bestFurniture 136 = .ok (.iinc 5 1, 3) := by decide +kernel
theorem dX1_bestFurniture_139 : decode cX1_bestFurniture 139 = .ok (.goto (-107), 3) := by decide +kernel
theorem dX1_bestFurniture_142 : decode cX1_bestFurniture 142 = .ok (.iinc 4 1, 3) := by decide +kernel
theorem dX1_bestFurniture_145 : decode cX1_bestFurniture 145 = .ok (.goto (-124), 3) := by decide +kernel
theorem dX1_bestFurniture_148 : decode cX1_bestFurniture 148 = .ok (.iload_n 3, 1) := by decide +kernel
theorem dX1_bestFurniture_149 : decode cX1_bestFurniture 149 = .ok (.ireturn, 1) := by decide +kernel
theorem dX1_freeCells_0 : decode cX1_freeCells 0 = .ok (.aload_n 0, 1) := by decide +kernel
theorem dX1_freeCells_1 : decode cX1_freeCells 1 = .ok (.getfield 22, 3) := by decide +kernel
theorem dX1_freeCells_4 : decode cX1_freeCells 4 = .ok (.getfield 60, 3) := by decide +kernel
theorem dX1_freeCells_7 : decode cX1_freeCells 7 = .ok (.istore_n 1, 1) := by decide +kernel
theorem dX1_freeCells_8 : decode cX1_freeCells 8 = .ok (.iconst 0, 1) := by decide +kernel
theorem dX1_freeCells_9 : decode cX1_freeCells 9 = .ok (.istore_n 2, 1) := by decide +kernel
theorem dX1_freeCells_10 : decode cX1_freeCells 10 = .ok (.iload_n 2, 1) := by decide +kernel
theorem dX1_freeCells_11 : decode cX1_freeCells 11 = .ok (.aload_n 0, 1) := by decide +kernel
theorem dX1_freeCells_12 : decode cX1_freeCells 12 = .ok (.getfield 22, 3) := by decide +kernel
theorem dX1_freeCells_15 : decode cX1_freeCells 15 = .ok (.getfield 86, 3) := by decide +kernel
theorem dX1_freeCells_18 : decode cX1_freeCells 18 = .ok (.if_icmp .ge 35, 3) := by decide +kernel
theorem dX1_freeCells_21 : decode cX1_freeCells 21 = .ok (.iload_n 1, 1) := by decide +kernel
theorem dX1_freeCells_22 : decode cX1_freeCells 22 = .ok (.iconst 1, 1) := by decide +kernel
theorem dX1_freeCells_23 : decode cX1_freeCells 23 = .ok (.aload_n 0, 1) := by decide +kernel
theorem dX1_freeCells_24 : decode cX1_freeCells 24 = .ok (.getfield 22, 3) := by decide +kernel
theorem dX1_freeCells_27 : decode cX1_freeCells 27 = .ok (.getfield 112, 3) := by decide +kernel
theorem dX1_freeCells_30 : decode cX1_freeCells 30 = .ok (.iload_n 2, 1) := by decide +kernel
theorem dX1_freeCells_31 : decode cX1_freeCells 31 = .ok (.iaload, 1) := by decide +kernel
theorem dX1_freeCells_32 : decode cX1_freeCells 32 = .ok (.ishl, 1) := by decide +kernel
theorem dX1_freeCells_33 : decode cX1_freeCells 33 = .ok (.iconst 1, 1) := by decide +kernel
theorem dX1_freeCells_34 : decode cX1_freeCells 34 = .ok (.aload_n 0, 1) := by decide +kernel
theorem dX1_freeCells_35 : decode cX1_freeCells 35 = .ok (.getfield 22, 3) := by decide +kernel
theorem dX1_freeCells_38 : decode cX1_freeCells 38 = .ok (.getfield 115, 3) := by decide +kernel
theorem dX1_freeCells_41 : decode cX1_freeCells 41 = .ok (.iload_n 2, 1) := by decide +kernel
theorem dX1_freeCells_42 : decode cX1_freeCells 42 = .ok (.iaload, 1) := by decide +kernel
theorem dX1_freeCells_43 : decode cX1_freeCells 43 = .ok (.ishl, 1) := by decide +kernel
theorem dX1_freeCells_44 : decode cX1_freeCells 44 = .ok (.ior, 1) := by decide +kernel
theorem dX1_freeCells_45 : decode cX1_freeCells 45 = .ok (.ior, 1) := by decide +kernel
theorem dX1_freeCells_46 : decode cX1_freeCells 46 = .ok (.istore_n 1, 1) := by decide +kernel
theorem dX1_freeCells_47 : decode cX1_freeCells 47 = .ok (.iinc 2 1, 3) := by decide +kernel
theorem dX1_freeCells_50 : decode cX1_freeCells 50 = .ok (.goto (-40), 3) := by decide +kernel
theorem dX1_freeCells_53 : decode cX1_freeCells 53 = .ok (.ldc 118, 2) := by decide +kernel
theorem dX1_freeCells_55 : decode cX1_freeCells 55 = .ok (.iload_n 1, 1) := by decide +kernel
theorem dX1_freeCells_56 : decode cX1_freeCells 56 = .ok (.iconst (-1), 1) := by decide +kernel
theorem dX1_freeCells_57 : decode cX1_freeCells 57 = .ok (.ixor, 1) := by decide +kernel
theorem dX1_freeCells_58 : decode cX1_freeCells 58 = .ok (.iand, 1) := by decide +kernel
theorem dX1_freeCells_59 : decode cX1_freeCells 59 = .ok (.ireturn, 1) := by decide +kernel
theorem dX1_cellToLay_0 : decode cX1_cellToLay 0 = .ok (.aload_n 0, 1) := by decide +kernel
theorem dX1_cellToLay_1 : decode cX1_cellToLay 1 = .ok (.bipush 20, 2) := by decide +kernel
theorem dX1_cellToLay_3 : decode cX1_cellToLay 3 = .ok (.invokevirtual 105, 3) := by decide +kernel
theorem dX1_cellToLay_6 : decode cX1_cellToLay 6 = .ok (.invokevirtual 73, 3) := by decide +kernel
theorem dX1_cellToLay_9 : decode cX1_cellToLay 9 = .ok (.istore_n 1, 1) := by decide +kernel
theorem dX1_cellToLay_10 : decode cX1_cellToLay 10 = .ok (.iconst 0, 1) := by decide +kernel
theorem dX1_cellToLay_11 : decode cX1_cellToLay 11 = .ok (.istore_n 2, 1) := by decide +kernel
theorem dX1_cellToLay_12 : decode cX1_cellToLay 12 = .ok (.iload_n 2, 1) := by decide +kernel
theorem dX1_cellToLay_13 : decode cX1_cellToLay 13 = .ok (.bipush 16, 2) := by decide +kernel
theorem dX1_cellToLay_15 : decode cX1_cellToLay 15 = .ok (.if_icmp .ge 39, 3) := by decide +kernel
theorem dX1_cellToLay_18 : decode cX1_cellToLay 18 = .ok (.iload_n 1, 1) := by decide +kernel
theorem dX1_cellToLay_19 : decode cX1_cellToLay 19 = .ok (.iload_n 2, 1) := by decide +kernel
theorem dX1_cellToLay_20 : decode cX1_cellToLay 20 = .ok (.invokestatic 119, 3) := by decide +kernel
theorem dX1_cellToLay_23 : decode cX1_cellToLay 23 = .ok (.ifCond .eq 25, 3) := by decide +kernel
theorem dX1_cellToLay_26 : decode cX1_cellToLay 26 = .ok (.aload_n 0, 1) := by decide +kernel
theorem dX1_cellToLay_27 : decode cX1_cellToLay 27 = .ok (.getfield 22, 3) := by decide +kernel
theorem dX1_cellToLay_30 : decode cX1_cellToLay 30 = .ok (.iload_n 2, 1) := by decide +kernel
theorem dX1_cellToLay_31 : decode cX1_cellToLay 31 = .ok (.bipush 20, 2) := by decide +kernel
theorem dX1_cellToLay_33 : decode cX1_cellToLay 33 = .ok (.invokevirtual 66, 3) := by decide +kernel
theorem dX1_cellToLay_36 : decode cX1_cellToLay 36 = .ok (.aload_n 0, 1) := by decide +kernel
theorem dX1_cellToLay_37 : decode cX1_cellToLay 37 = .ok (.getfield 22, 3) := by decide +kernel
theorem dX1_cellToLay_40 : decode cX1_cellToLay 40 = .ok (.getfield 70, 3) := by decide +kernel
theorem dX1_cellToLay_43 : decode cX1_cellToLay 43 = .ok (.if_icmp .ge 5, 3) := by decide +kernel
theorem dX1_cellToLay_46 : decode cX1_cellToLay 46 = .ok (.iload_n 2, 1) := by decide +kernel
theorem dX1_cellToLay_47 : decode cX1_cellToLay 47 = .ok (.ireturn, 1) := by decide +kernel
theorem dX1_cellToLay_48 : decode cX1_cellToLay 48 = .ok (.iinc 2 1, 3) := by decide +kernel
theorem dX1_cellToLay_51 : decode cX1_cellToLay 51 = .ok (.goto (-39), 3) := by decide +kernel
theorem dX1_cellToLay_54 : decode cX1_cellToLay 54 = .ok (.bipush (-5), 2) := by decide +kernel
theorem dX1_cellToLay_56 : decode cX1_cellToLay 56 = .ok (.ireturn, 1) := by decide +kernel
theorem dX1_startsOf_0 : decode cX1_startsOf 0 = .ok (.iconst 0, 1) := by decide +kernel
theorem dX1_startsOf_1 : decode cX1_startsOf 1 = .ok (.istore_n 2, 1) := by decide +kernel
theorem dX1_startsOf_2 : decode cX1_startsOf 2 = .ok (.aload_n 0, 1) := by decide +kernel
theorem dX1_startsOf_3 : decode cX1_startsOf 3 = .ok (.getfield 12, 3) := by decide +kernel
theorem dX1_startsOf_6 : decode cX1_startsOf 6 = .ok (.aload_n 0, 1) := by decide +kernel
theorem dX1_startsOf_7 : decode cX1_startsOf 7 = .ok (.getfield 22, 3) := by decide +kernel
theorem dX1_startsOf_10 : decode cX1_startsOf 10 = .ok (.invokevirtual 33, 3) := by decide +kernel
theorem dX1_startsOf_13 : decode cX1_startsOf 13 = .ok (.iconst 0, 1) := by decide +kernel
theorem dX1_startsOf_14 : decode cX1_startsOf 14 = .ok (.istore_n 3, 1) := by decide +kernel
theorem dX1_startsOf_15 : decode cX1_startsOf 15 = .ok (.iload_n 3, 1) := by decide +kernel
theorem dX1_startsOf_16 : decode cX1_startsOf 16 = .ok (.bipush 16, 2) := by decide +kernel
theorem dX1_startsOf_18 : decode cX1_startsOf 18 = .ok (.if_icmp .ge 47, 3) := by decide +kernel
theorem dX1_startsOf_21 : decode cX1_startsOf 21 = .ok (.aload_n 0, 1) := by decide +kernel
theorem dX1_startsOf_22 : decode cX1_startsOf 22 = .ok (.getfield 12, 3) := by decide +kernel
theorem dX1_startsOf_25 : decode cX1_startsOf 25 = .ok (.getfield 112, 3) := by decide +kernel
theorem dX1_startsOf_28 : decode cX1_startsOf 28 = .ok (.iload_n 1, 1) := by decide +kernel
theorem dX1_startsOf_29 : decode cX1_startsOf 29 = .ok (.iload_n 3, 1) := by decide +kernel
theorem dX1_startsOf_30 : decode cX1_startsOf 30 = .ok (.iastore, 1) := by decide +kernel
theorem dX1_startsOf_31 : decode cX1_startsOf 31 = .ok (.aload_n 0, 1) := by decide +kernel
theorem dX1_startsOf_32 : decode cX1_startsOf 32 = .ok (.getfield 12, 3) := by decide +kernel
theorem dX1_startsOf_35 : decode cX1_startsOf 35 = .ok (.iload_n 1, 1) := by decide +kernel
theorem dX1_startsOf_36 : decode cX1_startsOf 36 = .ok (.invokevirtual 122, 3) := by decide +kernel
theorem dX1_startsOf_39 : decode cX1_startsOf 39 = .ok (.aload_n 0, 1) := by decide +kernel
theorem dX1_startsOf_40 : decode cX1_startsOf 40 = .ok (.getfield 25, 3) := by decide +kernel
theorem dX1_startsOf_43 : decode cX1_startsOf 43 = .ok (.aload_n 0, 1) := by decide +kernel
theorem dX1_startsOf_44 : decode cX1_startsOf 44 = .ok (.getfield 12, 3) := by decide +kernel
theorem dX1_startsOf_47 : decode cX1_startsOf 47 = .ok (.invokevirtual 125, 3) := by decide +kernel
theorem dX1_startsOf_50 : decode cX1_startsOf 50 = .ok (.ifCond .eq 9, 3) := by decide +kernel
theorem dX1_startsOf_53 : decode cX1_startsOf 53 = .ok (.iload_n 2, 1) := by decide +kernel
theorem dX1_startsOf_54 : decode cX1_startsOf 54 = .ok (.iconst 1, 1) := by decide +kernel
theorem dX1_startsOf_55 : decode cX1_startsOf 55 = .ok (.iload_n 3, 1) := by decide +kernel
theorem dX1_startsOf_56 : decode cX1_startsOf 56 = .ok (.ishl, 1) := by decide +kernel
theorem dX1_startsOf_57 : decode cX1_startsOf 57 = .ok (.ior, 1) := by decide +kernel
theorem dX1_startsOf_58 : decode cX1_startsOf 58 = .ok (.istore_n 2, 1) := by decide +kernel
theorem dX1_startsOf_59 : decode cX1_startsOf 59 = .ok (.iinc 3 1, 3) := by decide +kernel
theorem dX1_startsOf_62 : decode cX1_startsOf 62 = .ok (.goto (-47), 3) := by decide +kernel
theorem dX1_startsOf_65 : decode cX1_startsOf 65 = .ok (.iload_n 2, 1) := by decide +kernel
theorem dX1_startsOf_66 : decode cX1_startsOf 66 = .ok (.ireturn, 1) := by decide +kernel
theorem dX1_fittingNumbers_0 : decode cX1_fittingNumbers 0 = .ok (.iconst 0, 1) := by decide +kernel
theorem dX1_fittingNumbers_1 : decode cX1_fittingNumbers 1 = .ok (.istore_n 2, 1) := by decide +kernel
theorem dX1_fittingNumbers_2 : decode cX1_fittingNumbers 2 = .ok (.aload_n 0, 1) := by decide +kernel
theorem dX1_fittingNumbers_3 : decode cX1_fittingNumbers 3 = .ok (.getfield 12, 3) := by decide +kernel
theorem dX1_fittingNumbers_6 : decode cX1_fittingNumbers 6 = .ok (.aload_n 0, 1) := by decide +kernel
theorem dX1_fittingNumbers_7 : decode cX1_fittingNumbers 7 = .ok (.getfield 22, 3) := by decide +kernel
theorem dX1_fittingNumbers_10 : decode cX1_fittingNumbers 10 = .ok (.invokevirtual 33, 3) := by decide +kernel
theorem dX1_fittingNumbers_13 : decode cX1_fittingNumbers 13 = .ok (.iconst 0, 1) := by decide +kernel
theorem dX1_fittingNumbers_14 : decode cX1_fittingNumbers 14 = .ok (.istore_n 3, 1) := by decide +kernel
theorem dX1_fittingNumbers_15 : decode cX1_fittingNumbers 15 = .ok (.iload_n 3, 1) := by decide +kernel
theorem dX1_fittingNumbers_16 : decode cX1_fittingNumbers 16 = .ok (.bipush 9, 2) := by decide +kernel
theorem dX1_fittingNumbers_18 : decode cX1_fittingNumbers 18 = .ok (.if_icmp .gt 79, 3) := by decide +kernel
theorem dX1_fittingNumbers_21 : decode cX1_fittingNumbers 21 = .ok (.aload_n 0, 1) := by decide +kernel
theorem dX1_fittingNumbers_22 : decode cX1_fittingNumbers 22 = .ok (.getfield 12, 3) := by decide +kernel
theorem dX1_fittingNumbers_25 : decode cX1_fittingNumbers 25 = .ok (.getfield 129, 3) := by decide +kernel
theorem dX1_fittingNumbers_28 : decode cX1_fittingNumbers 28 = .ok (.iload_n 1, 1) := by decide +kernel
theorem dX1_fittingNumbers_29 : decode cX1_fittingNumbers 29 = .ok (.iload_n 3, 1) := by decide +kernel
theorem dX1_fittingNumbers_30 : decode cX1_fittingNumbers 30 = .ok (.iastore, 1) := by decide +kernel
theorem dX1_fittingNumbers_31 : decode cX1_fittingNumbers 31 = .ok (.aload_n 0, 1) := by decide +kernel
theorem dX1_fittingNumbers_32 : decode cX1_fittingNumbers 32 = .ok (.getfield 29, 3) := by decide +kernel
theorem dX1_fittingNumbers_35 : decode cX1_fittingNumbers 35 = .ok (.aload_n 0, 1) := by decide +kernel
theorem dX1_fittingNumbers_36 : decode cX1_fittingNumbers 36 = .ok (.getfield 22, 3) := by decide +kernel
theorem dX1_fittingNumbers_39 : decode cX1_fittingNumbers 39 = .ok (.getfield 132, 3) := by decide +kernel
theorem dX1_fittingNumbers_42 : decode cX1_fittingNumbers 42 = .ok (.iload_n 1, 1) := by decide +kernel
theorem dX1_fittingNumbers_43 : decode cX1_fittingNumbers 43 = .ok (.aload_n 0, 1) := by decide +kernel
theorem dX1_fittingNumbers_44 : decode cX1_fittingNumbers 44 = .ok (.getfield 22, 3) := by decide +kernel
theorem dX1_fittingNumbers_47 : decode cX1_fittingNumbers 47 = .ok (.getfield 135, 3) := by decide +kernel
theorem dX1_fittingNumbers_50 : decode cX1_fittingNumbers 50 = .ok (.iload_n 1, 1) := by decide +kernel
theorem dX1_fittingNumbers_51 : decode cX1_fittingNumbers 51 = .ok (.iaload, 1) := by decide +kernel
theorem dX1_fittingNumbers_52 : decode cX1_fittingNumbers 52 = .ok (.iload_n 3, 1) := by decide +kernel
theorem dX1_fittingNumbers_53 : decode cX1_fittingNumbers 53 = .ok (.invokevirtual 138, 3) := by decide +kernel
theorem dX1_fittingNumbers_56 : decode cX1_fittingNumbers 56 = .ok (.aload_n 0, 1) := by decide +kernel
theorem dX1_fittingNumbers_57 : decode cX1_fittingNumbers 57 = .ok (.getfield 29, 3) := by decide +kernel
theorem dX1_fittingNumbers_60 : decode cX1_fittingNumbers 60 = .ok (.aload_n 0, 1) := by decide +kernel
theorem dX1_fittingNumbers_61 : decode cX1_fittingNumbers 61 = .ok (.getfield 12, 3) := by decide +kernel
theorem dX1_fittingNumbers_64 : decode cX1_fittingNumbers 64 = .ok (.getfield 144, 3) := by decide +kernel
theorem dX1_fittingNumbers_67 : decode cX1_fittingNumbers 67 = .ok (.iload_n 1, 1) := by decide +kernel
theorem dX1_fittingNumbers_68 : decode cX1_fittingNumbers 68 = .ok (.invokevirtual 147, 3) := by decide +kernel
theorem dX1_fittingNumbers_71 : decode cX1_fittingNumbers 71 = .ok (.aload_n 0, 1) := by decide +kernel
theorem dX1_fittingNumbers_72 : decode cX1_fittingNumbers 72 = .ok (.getfield 25, 3) := by decide +kernel
theorem dX1_fittingNumbers_75 : decode cX1_fittingNumbers 75 = .ok (.aload_n 0, 1) := by decide +kernel
theorem dX1_fittingNumbers_76 : decode cX1_fittingNumbers 76 = .ok (.getfield 12, 3) := by decide +kernel
theorem dX1_fittingNumbers_79 : decode cX1_fittingNumbers 79 = .ok (.invokevirtual 125, 3) := by decide +kernel
theorem dX1_fittingNumbers_82 : decode cX1_fittingNumbers 82 = .ok (.ifCond .eq 9, 3) := by decide +kernel
theorem dX1_fittingNumbers_85 : decode cX1_fittingNumbers 85 = .ok (.iload_n 2, 1) := by decide +kernel
theorem dX1_fittingNumbers_86 : decode cX1_fittingNumbers 86 = .ok (.iconst 1, 1) := by decide +kernel
theorem dX1_fittingNumbers_87 : decode cX1_fittingNumbers 87 = .ok (.iload_n 3, 1) := by decide +kernel
theorem dX1_fittingNumbers_88 : decode cX1_fittingNumbers 88 = .ok (.ishl, 1) := by decide +kernel
theorem dX1_fittingNumbers_89 : decode cX1_fittingNumbers 89 = .ok (.ior, 1) := by decide +kernel
theorem dX1_fittingNumbers_90 : decode cX1_fittingNumbers 90 = .ok (.istore_n 2, 1) := by decide +kernel
theorem dX1_fittingNumbers_91 : decode cX1_fittingNumbers 91 = .ok (.iinc 3 1, 3) := by decide +kernel
theorem dX1_fittingNumbers_94 : decode cX1_fittingNumbers 94 = .ok (.goto (-79), 3) := by decide +kernel
theorem dX1_fittingNumbers_97 : decode cX1_fittingNumbers 97 = .ok (.iload_n 2, 1) := by decide +kernel
theorem dX1_fittingNumbers_98 : decode cX1_fittingNumbers 98 = .ok (.ireturn, 1) := by decide +kernel
theorem dX1_soleGoers_0 : decode cX1_soleGoers 0 = .ok (.iconst 0, 1) := by decide +kernel
theorem dX1_soleGoers_1 : decode cX1_soleGoers 1 = .ok (.istore_n 1, 1) := by decide +kernel
theorem dX1_soleGoers_2 : decode cX1_soleGoers 2 = .ok (.aload_n 0, 1) := by decide +kernel
theorem dX1_soleGoers_3 : decode cX1_soleGoers 3 = .ok (.getfield 12, 3) := by decide +kernel
theorem dX1_soleGoers_6 : decode cX1_soleGoers 6 = .ok (.aload_n 0, 1) := by decide +kernel
theorem dX1_soleGoers_7 : decode cX1_soleGoers 7 = .ok (.getfield 22, 3) := by decide +kernel
theorem dX1_soleGoers_10 : decode cX1_soleGoers 10 = .ok (.invokevirtual 33, 3) := by decide +kernel
theorem dX1_soleGoers_13 : decode cX1_soleGoers 13 = .ok (.iconst 0, 1) := by decide +kernel
theorem dX1_soleGoers_14 : decode cX1_soleGoers 14 = .ok (.istore_n 2, 1) := by decide +kernel
theorem dX1_soleGoers_15 : decode cX1_soleGoers 15 = .ok (.iload_n 2, 1) := by decide +kernel
theorem dX1_soleGoers_16 : decode cX1_soleGoers 16 = .ok (.aload_n 0, 1) := by decide +kernel
theorem dX1_soleGoers_17 : decode cX1_soleGoers 17 = .ok (.getfield 22, 3) := by decide +kernel
theorem dX1_soleGoers_20 : decode cX1_soleGoers 20 = .ok (.getfield 86, 3) := by decide +kernel
theorem dX1_soleGoers_23 : decode cX1_soleGoers 23 = .ok (.if_icmp .ge 41, 3) := by decide +kernel
theorem dX1_soleGoers_26 : decode cX1_soleGoers 26 = .ok (.aload_n 0, 1) := by decide +kernel
theorem dX1_soleGoers_27 : decode cX1_soleGoers 27 = .ok (.getfield 12, 3) := by decide +kernel
theorem dX1_soleGoers_30 : decode cX1_soleGoers 30 = .ok (.iconst 1, 1) := by decide +kernel
theorem dX1_soleGoers_31 : decode cX1_soleGoers 31 = .ok (.iload_n 2, 1) := by decide +kernel
theorem dX1_soleGoers_32 : decode cX1_soleGoers 32 = .ok (.ishl, 1) := by decide +kernel
theorem dX1_soleGoers_33 : decode cX1_soleGoers 33 = .ok (.iconst (-1), 1) := by decide +kernel
theorem dX1_soleGoers_34 : decode cX1_soleGoers 34 = .ok (.ixor, 1) := by decide +kernel
theorem dX1_soleGoers_35 : decode cX1_soleGoers 35 = .ok (.putfield 99, 3) := by decide +kernel
theorem dX1_soleGoers_38 : decode cX1_soleGoers 38 = .ok (.aload_n 0, 1) := by decide +kernel
theorem dX1_soleGoers_39 : decode cX1_soleGoers 39 = .ok (.getfield 25, 3) := by decide +kernel
theorem dX1_soleGoers_42 : decode cX1_soleGoers 42 = .ok (.aload_n 0, 1) := by decide +kernel
theorem dX1_soleGoers_43 : decode cX1_soleGoers 43 = .ok (.getfield 12, 3) := by decide +kernel
theorem dX1_soleGoers_46 : decode cX1_soleGoers 46 = .ok (.invokevirtual 125, 3) := by decide +kernel
theorem dX1_soleGoers_49 : decode cX1_soleGoers 49 = .ok (.ifCond .eq 9, 3) := by decide +kernel
theorem dX1_soleGoers_52 : decode cX1_soleGoers 52 = .ok (.iload_n 1, 1) := by decide +kernel
theorem dX1_soleGoers_53 : decode cX1_soleGoers 53 = .ok (.iconst 1, 1) := by decide +kernel
theorem dX1_soleGoers_54 : decode cX1_soleGoers 54 = .ok (.iload_n 2, 1) := by decide +kernel
theorem dX1_soleGoers_55 : decode cX1_soleGoers 55 = .ok (.ishl, 1) := by decide +kernel
theorem dX1_soleGoers_56 : decode cX1_soleGoers 56 = .ok (.ior, 1) := by decide +kernel
theorem dX1_soleGoers_57 : decode cX1_soleGoers 57 = .ok (.istore_n 1, 1) := by decide +kernel
theorem dX1_soleGoers_58 : decode cX1_soleGoers 58 = .ok (.iinc 2 1, 3) := by decide +kernel
theorem dX1_soleGoers_61 : decode cX1_soleGoers 61 = .ok (.goto (-46), 3) := by decide +kernel
theorem dX1_soleGoers_64 : decode cX1_soleGoers 64 = .ok (.iload_n 1, 1) := by decide +kernel
theorem dX1_soleGoers_65 : decode cX1_soleGoers 65 = .ok (.ireturn, 1) := by decide +kernel
theorem dX1_goersWithoutWhomBald_0 : decode cX1_goersWithoutWhomBald 0 = .ok (.iconst 0, 1) := by decide +kernel
theorem dX1_goersWithoutWhomBald_1 : decode cX1_goersWithoutWhomBald 1 = .ok (.istore_n 3, 1) := by decide +kernel
theorem dX1_goersWithoutWhomBald_2 : decode cX1_goersWithoutWhomBald 2 = .ok (.aload_n 0, 1) := by decide +kernel
theorem dX1_goersWithoutWhomBald_3 : decode cX1_goersWithoutWhomBald 3 = .ok (.getfield 12, 3) := by decide +kernel
theorem dX1_goersWithoutWhomBald_6 : decode cX1_goersWithoutWhomBald 6 = .ok (.aload_n 0, 1) := by decide +kernel
theorem dX1_goersWithoutWhomBald_7 : decode cX1_goersWithoutWhomBald 7 = .ok (.getfield 22, 3) := by decide +kernel
theorem dX1_goersWithoutWhomBald_10 : decode cX1_goersWithoutWhomBald 10 = .ok (.invokevirtual 33, 3) := by decide +kernel
theorem dX1_goersWithoutWhomBald_13 : decode cX1_goersWithoutWhomBald 13 = .ok (.iconst 0, 1) := by decide +kernel
theorem dX1_goersWithoutWhomBald_14 : decode cX1_goersWithoutWhomBald 14 = .ok (.istore 4, 2) := by decide +kernel
theorem dX1_goersWithoutWhomBald_16 : decode cX1_goersWithoutWhomBald 16 = .ok (.iload 4, 2) := by decide +kernel
theorem dX1_goersWithoutWhomBald_18 : decode cX1_goersWithoutWhomBald 18 = .ok (.aload_n 0, 1) := by decide +kernel
theorem dX1_goersWithoutWhomBald_19 : decode cX1_goersWithoutWhomBald 19 = .ok (.getfield 22, 3) := by decide +kernel
theorem dX1_goersWithoutWhomBald_22 : decode cX1_goersWithoutWhomBald 22 = .ok (.getfield 86, 3) := by decide +kernel
theorem dX1_goersWithoutWhomBald_25 : decode cX1_goersWithoutWhomBald 25 = .ok (.if_icmp .ge 60, 3) := by decide +kernel
theorem dX1_goersWithoutWhomBald_28 : decode cX1_goersWithoutWhomBald 28 = .ok (.aload_n 0, 1) := by decide +kernel
theorem dX1_goersWithoutWhomBald_29 : decode cX1_goersWithoutWhomBald 29 = .ok (.getfield 12, 3) := by decide +kernel
theorem dX1_goersWithoutWhomBald_32 : decode cX1_goersWithoutWhomBald 32 = .ok (.aload_n 0, 1) := by decide +kernel
theorem dX1_goersWithoutWhomBald_33 : decode cX1_goersWithoutWhomBald 33 = .ok (.getfield 22, 3) := by decide +kernel
theorem dX1_goersWithoutWhomBald_36 : decode cX1_goersWithoutWhomBald 36 = .ok (.getfield 99, 3) := by decide +kernel
theorem dX1_goersWithoutWhomBald_39 : decode cX1_goersWithoutWhomBald 39 = .ok (.iconst 1, 1) := by decide +kernel
theorem dX1_goersWithoutWhomBald_40 : decode cX1_goersWithoutWhomBald 40 = .ok (.iload 4, 2) := by decide +kernel
theorem dX1_goersWithoutWhomBald_42 : decode cX1_goersWithoutWhomBald 42 = .ok (.ishl, 1) := by decide +kernel
theorem dX1_goersWithoutWhomBald_43 : decode cX1_goersWithoutWhomBald 43 = .ok (.ior, 1) := by decide +kernel
theorem dX1_goersWithoutWhomBald_44 : decode cX1_goersWithoutWhomBald 44 = .ok (.putfield 99, 3) := by decide +kernel
theorem dX1_goersWithoutWhomBald_47 : decode cX1_goersWithoutWhomBald 47 = .ok (.aload_n 0, 1) := by decide +kernel
theorem dX1_goersWithoutWhomBald_48 : decode cX1_goersWithoutWhomBald 48 = .ok (.getfield 12, 3) := by decide +kernel
theorem dX1_goersWithoutWhomBald_51 : decode cX1_goersWithoutWhomBald 51 = .ok (.getfield 57, 3) := by decide +kernel
theorem dX1_goersWithoutWhomBald_54 : decode cX1_goersWithoutWhomBald 54 = .ok (.iload_n 1, 1) := by decide +kernel
theorem dX1_goersWithoutWhomBald_55 : decode cX1_goersWithoutWhomBald 55 = .ok (.iaload, 1) := by decide +kernel
theorem dX1_goersWithoutWhomBald_56 : decode cX1_goersWithoutWhomBald 56 = .ok (.aload_n 0, 1) := by decide +kernel
theorem dX1_goersWithoutWhomBald_57 : decode cX1_goersWithoutWhomBald 57 = .ok (.getfield 12, 3) := by decide +kernel
theorem dX1_goersWithoutWhomBald_60 : decode cX1_goersWithoutWhomBald 60 = .ok (.iload_n 1, 1) := by decide +kernel
theorem dX1_goersWithoutWhomBald_61 : decode cX1_goersWithoutWhomBald 61 = .ok (.iload_n 2, 1) := by decide +kernel
theorem dX1_goersWithoutWhomBald_62 : decode cX1_goersWithoutWhomBald 62 = .ok (.invokevirtual 66, 3) := by decide +kernel
theorem dX1_goersWithoutWhomBald_65 : decode cX1_goersWithoutWhomBald 65 = .ok (.iadd, 1) := by decide +kernel
theorem dX1_goersWithoutWhomBald_66 : decode cX1_goersWithoutWhomBald 66 = .ok (.aload_n 0, 1) := by decide +kernel
theorem dX1_goersWithoutWhomBald_67 : decode cX1_goersWithoutWhomBald 67 = .ok (.getfield 22, 3) := by decide +kernel
theorem dX1_goersWithoutWhomBald_70 : decode cX1_goersWithoutWhomBald 70 = .ok (.getfield 70, 3) := by decide +kernel
theorem dX1_goersWithoutWhomBald_73 : decode cX1_goersWithoutWhomBald 73 = .ok (.if_icmp .lt 6, 3) := by decide +kernel
theorem dX1_goersWithoutWhomBald_76 : decode cX1_goersWithoutWhomBald 76 = .ok (.iinc 3 1, 3) := by decide +kernel
theorem dX1_goersWithoutWhomBald_79 : decode cX1_goersWithoutWhomBald 79 = .ok (.iinc 4 1, 3) := by decide +kernel
theorem dX1_goersWithoutWhomBald_82 : decode cX1_goersWithoutWhomBald 82 = .ok (.goto (-66), 3) := by decide +kernel
theorem dX1_goersWithoutWhomBald_85 : decode cX1_goersWithoutWhomBald 85 = .ok (.iload_n 3, 1) := by decide +kernel
theorem dX1_goersWithoutWhomBald_86 : decode cX1_goersWithoutWhomBald 86 = .ok (.ireturn, 1) := by decide +kernel
theorem dX2_init_0 : decode cX2_init 0 = .ok (.aload_n 0, 1) := by decide +kernel
theorem dX2_init_1 : decode cX2_init 1 = .ok (.invokespecial 3, 3) := by decide +kernel
theorem dX2_init_4 : decode cX2_init 4 = .ok (.aload_n 0, 1) := by decide +kernel
theorem dX2_init_5 : decode cX2_init 5 = .ok (.bipush 16, 2) := by decide +kernel
theorem dX2_init_7 : decode cX2_init 7 = .ok (.newarray .int, 2) := by decide +kernel
theorem dX2_init_9 : decode cX2_init 9 = .ok (.putfield 9, 3) := by decide +kernel
theorem dX2_init_12 : decode cX2_init 12 = .ok (.aload_n 0, 1) := by decide +kernel
theorem dX2_init_13 : decode cX2_init 13 = .ok (.bipush 6, 2) := by decide +kernel
theorem dX2_init_15 : decode cX2_init 15 = .ok (.newarray .int, 2) := by decide +kernel
theorem dX2_init_17 : decode cX2_init 17 = .ok (.putfield 15, 3) := by decide +kernel
theorem dX2_init_20 : decode cX2_init 20 = .ok (.aload_n 0, 1) := by decide +kernel
theorem dX2_init_21 : decode cX2_init 21 = .ok (.bipush 6, 2) := by decide +kernel
theorem dX2_init_23 : decode cX2_init 23 = .ok (.newarray .int, 2) := by decide +kernel
theorem dX2_init_25 : decode cX2_init 25 = .ok (.putfield 18, 3) := by decide +kernel
theorem dX2_init_28 : decode cX2_init 28 = .ok (.aload_n 0, 1) := by decide +kernel
theorem dX2_init_29 : decode cX2_init 29 = .ok (.bipush 6, 2) := by decide +kernel
theorem dX2_init_31 : decode cX2_init 31 = .ok (.newarray .int, 2) := by decide +kernel
theorem dX2_init_33 : decode cX2_init 33 = .ok (.putfield 21, 3) := by decide +kernel
theorem dX2_init_36 : decode cX2_init 36 = .ok (.aload_n 0, 1) := by decide +kernel
theorem dX2_init_37 : decode cX2_init 37 = .ok (.bipush 6, 2) := by decide +kernel
theorem dX2_init_39 : decode cX2_init 39 = .ok (.newarray .int, 2) := by decide +kernel
theorem dX2_init_41 : decode cX2_init 41 = .ok (.putfield 24, 3) := by decide +kernel
theorem dX2_init_44 : decode cX2_init 44 = .ok (.aload_n 0, 1) := by decide +kernel
theorem dX2_init_45 : decode cX2_init 45 = .ok (.bipush 24, 2) := by decide +kernel
theorem dX2_init_47 : decode cX2_init 47 = .ok (.newarray .int, 2) := by decide +kernel
theorem dX2_init_49 : decode cX2_init 49 = .ok (.putfield 27, 3) := by decide +kernel
theorem dX2_init_52 : decode cX2_init 52 = .ok (.aload_n 0, 1) := by decide +kernel
theorem dX2_init_53 : decode cX2_init 53 = .ok (.bipush 6, 2) := by decide +kernel
theorem dX2_init_55 : decode cX2_init 55 = .ok (.newarray .int, 2) := by decide +kernel
theorem dX2_init_57 : decode cX2_init 57 = .ok (.putfield 30, 3) := by decide +kernel
theorem dX2_init_60 : decode cX2_init 60 = .ok (.aload_n 0, 1) := by decide +kernel
theorem dX2_init_61 : decode cX2_init 61 = .ok (.bipush 96, 2) := by decide +kernel
theorem dX2_init_63 : decode cX2_init 63 = .ok (.newarray .int, 2) := by decide +kernel
theorem dX2_init_65 : decode cX2_init 65 = .ok (.putfield 33, 3) := by decide +kernel
theorem dX2_init_68 : decode cX2_init 68 = .ok (.aload_n 0, 1) := by decide +kernel
theorem dX2_init_69 : decode cX2_init 69 = .ok (.iconst (-1), 1) := by decide +kernel
theorem dX2_init_70 : decode cX2_init 70 = .ok (.putfield 36, 3) := by decide +kernel
theorem dX2_init_73 : decode cX2_init 73 = .ok (.aload_n 0, 1) := by decide +kernel
theorem dX2_init_74 : decode cX2_init 74 = .ok (.bipush 30, 2) := by decide +kernel
theorem dX2_init_76 : decode cX2_init 76 = .ok (.putfield 42, 3) := by decide +kernel
theorem dX2_init_79 : decode cX2_init 79 = .ok (.aload_n 0, 1) := by decide +kernel
theorem dX2_init_80 : decode cX2_init 80 = .ok (.new 45, 3) := by decide +kernel
theorem dX2_init_83 : decode cX2_init 83 = .ok (.dup, 1) := by decide +kernel
theorem dX2_init_84 : decode cX2_init 84 = .ok (.invokespecial 47, 3) := by decide +kernel
theorem dX2_init_87 : decode cX2_init 87 = .ok (.putfield 48, 3) := by decide +kernel
theorem dX2_init_90 : decode cX2_init 90 = .ok (.return_, 1) := by decide +kernel
theorem dX2_become_0 : decode cX2_become 0 = .ok (.aload_n 1, 1) := by decide +kernel
theorem dX2_become_1 : decode cX2_become 1 = .ok (.getfield 9, 3) := by decide +kernel
theorem dX2_become_4 : decode cX2_become 4 = .ok (.iconst 0, 1) := by decide +kernel
theorem dX2_become_5 : decode cX2_become 5 = .ok (.aload_n 0, 1) := by decide +kernel
theorem dX2_become_6 : decode cX2_become 6 = .ok (.getfield 9, 3) := by decide +kernel
theorem dX2_become_9 : decode cX2_become 9 = .ok (.iconst 0, 1) := by decide +kernel
theorem dX2_become_10 : decode cX2_become 10 = .ok (.bipush 16, 2) := by decide +kernel
theorem dX2_become_12 : decode cX2_become 12 = .ok (.invokestatic 52, 3) := by decide +kernel
theorem dX2_become_15 : decode cX2_become 15 = .ok (.aload_n 1, 1) := by decide +kernel
theorem dX2_become_16 : decode cX2_become 16 = .ok (.getfield 15, 3) := by decide +kernel
theorem dX2_become_19 : decode cX2_become 19 = .ok (.iconst 0, 1) := by decide +kernel
theorem dX2_become_20 : decode cX2_become 20 = .ok (.aload_n 0, 1) := by decide +kernel
theorem dX2_become_21 : decode cX2_become 21 = .ok (.getfield 15, 3) := by decide +kernel
theorem dX2_become_24 : decode cX2_become 24 = .ok (.iconst 0, 1) := by decide +kernel
theorem dX2_become_25 : decode cX2_become 25 = .ok (.bipush 6, 2) := by decide +kernel
theorem dX2_become_27 : decode cX2_become 27 = .ok (.invokestatic 52, 3) := by decide +kernel
theorem dX2_become_30 : decode cX2_become 30 = .ok (.aload_n 1, 1) := by decide +kernel
theorem dX2_become_31 : decode cX2_become 31 = .ok (.getfield 18, 3) := by decide +kernel
theorem dX2_become_34 : decode cX2_become 34 = .ok (.iconst 0, 1) := by decide +kernel
theorem dX2_become_35 : decode cX2_become 35 = .ok (.aload_n 0, 1) := by decide +kernel
theorem dX2_become_36 : decode cX2_become 36 = .ok (.getfield 18, 3) := by decide +kernel
theorem dX2_become_39 : decode cX2_become 39 = .ok (.iconst 0, 1) := by decide +kernel
theorem dX2_become_40 : decode cX2_become 40 = .ok (.bipush 6, 2) := by decide +kernel
theorem dX2_become_42 : decode cX2_become 42 = .ok (.invokestatic 52, 3) := by decide +kernel
theorem dX2_become_45 : decode cX2_become 45 = .ok (.aload_n 1, 1) := by decide +kernel
theorem dX2_become_46 : decode cX2_become 46 = .ok (.getfield 21, 3) := by decide +kernel
theorem dX2_become_49 : decode cX2_become 49 = .ok (.iconst 0, 1) := by decide +kernel
theorem dX2_become_50 : decode cX2_become 50 = .ok (.aload_n 0, 1) := by decide +kernel
theorem dX2_become_51 : decode cX2_become 51 = .ok (.getfield 21, 3) := by decide +kernel
theorem dX2_become_54 : decode cX2_become 54 = .ok (.iconst 0, 1) := by decide +kernel
theorem dX2_become_55 : decode cX2_become 55 = .ok (.bipush 6, 2) := by decide +kernel
theorem dX2_become_57 : decode cX2_become 57 = .ok (.invokestatic 52, 3) := by decide +kernel
theorem dX2_become_60 : decode cX2_become 60 = .ok (.aload_n 1, 1) := by decide +kernel
theorem dX2_become_61 : decode cX2_become 61 = .ok (.getfield 24, 3) := by decide +kernel
theorem dX2_become_64 : decode cX2_become 64 = .ok (.iconst 0, 1) := by decide +kernel
theorem dX2_become_65 : decode cX2_become 65 = .ok (.aload_n 0, 1) := by decide +kernel
theorem dX2_become_66 : decode cX2_become 66 = .ok (.getfield 24, 3) := by decide +kernel
theorem dX2_become_69 : decode cX2_become 69 = .ok (.iconst 0, 1) := by decide +kernel
theorem dX2_become_70 : decode cX2_become 70 = .ok (.bipush 6, 2) := by decide +kernel
theorem dX2_become_72 : decode cX2_become 72 = .ok (.invokestatic 52, 3) := by decide +kernel
theorem dX2_become_75 : decode cX2_become 75 = .ok (.aload_n 1, 1) := by decide +kernel
theorem dX2_become_76 : decode cX2_become 76 = .ok (.getfield 27, 3) := by decide +kernel
theorem dX2_become_79 : decode cX2_become 79 = .ok (.iconst 0, 1) := by decide +kernel
theorem dX2_become_80 : decode cX2_become 80 = .ok (.aload_n 0, 1) := by decide +kernel
theorem dX2_become_81 : decode cX2_become 81 = .ok (.getfield 27, 3) := by decide +kernel
theorem dX2_become_84 : decode cX2_become 84 = .ok (.iconst 0, 1) := by decide +kernel
theorem dX2_become_85 : decode cX2_become 85 = .ok (.bipush 24, 2) := by decide +kernel
theorem dX2_become_87 : decode cX2_become 87 = .ok (.invokestatic 52, 3) := by decide +kernel
theorem dX2_become_90 : decode cX2_become 90 = .ok (.aload_n 1, 1) := by decide +kernel
theorem dX2_become_91 : decode cX2_become 91 = .ok (.getfield 30, 3) := by decide +kernel
theorem dX2_become_94 : decode cX2_become 94 = .ok (.iconst 0, 1) := by decide +kernel
theorem dX2_become_95 : decode cX2_become 95 = .ok (.aload_n 0, 1) := by decide +kernel
theorem dX2_become_96 : decode cX2_become 96 = .ok (.getfield 30, 3) := by decide +kernel
theorem dX2_become_99 : decode cX2_become 99 = .ok (.iconst 0, 1) := by decide +kernel
theorem dX2_become_100 : decode cX2_become 100 = .ok (.bipush 6, 2) := by decide +kernel
theorem dX2_become_102 : decode cX2_become 102 = .ok (.invokestatic 52, 3) := by decide +kernel
theorem dX2_become_105 : decode cX2_become 105 = .ok (.aload_n 1, 1) := by decide +kernel
theorem dX2_become_106 : decode cX2_become 106 = .ok (.getfield 33, 3) := by decide +kernel
theorem dX2_become_109 : decode cX2_become 109 = .ok (.iconst 0, 1) := by decide +kernel
theorem dX2_become_110 : decode cX2_become 110 = .ok (.aload_n 0, 1) := by decide +kernel
theorem dX2_become_111 : decode cX2_become 111 = .ok (.getfield 33, 3) := by decide +kernel
theorem dX2_become_114 : decode cX2_become 114 = .ok (.iconst 0, 1) := by decide +kernel
theorem dX2_become_115 : decode cX2_become 115 = .ok (.bipush 96, 2) := by decide +kernel
theorem dX2_become_117 : decode cX2_become 117 = .ok (.invokestatic 52, 3) := by decide +kernel
theorem dX2_become_120 : decode cX2_become 120 = .ok (.aload_n 0, 1) := by decide +kernel
theorem dX2_become_121 : decode cX2_become 121 = .ok (.aload_n 1, 1) := by decide +kernel
theorem dX2_become_122 : decode cX2_become 122 = .ok (.getfield 58, 3) := by decide +kernel
theorem dX2_become_125 : decode cX2_become 125 = .ok (.putfield 58, 3) := by decide +kernel
theorem dX2_become_128 : decode cX2_become 128 = .ok (.aload_n 0, 1) := by decide +kernel
theorem dX2_become_129 : decode cX2_become 129 = .ok (.aload_n 1, 1) := by decide +kernel
theorem dX2_become_130 : decode cX2_become 130 = .ok (.getfield 61, 3) := by decide +kernel
theorem dX2_become_133 : decode cX2_become 133 = .ok (.putfield 61, 3) := by decide +kernel
theorem dX2_become_136 : decode cX2_become 136 = .ok (.aload_n 0, 1) := by decide +kernel
theorem dX2_become_137 : decode cX2_become 137 = .ok (.aload_n 1, 1) := by decide +kernel
theorem dX2_become_138 : decode cX2_become 138 = .ok (.getfield 64, 3) := by decide +kernel
theorem dX2_become_141 : decode cX2_become 141 = .ok (.putfield 64, 3) := by decide +kernel
theorem dX2_become_144 : decode cX2_become 144 = .ok (.aload_n 0, 1) := by decide +kernel
theorem dX2_become_145 : decode cX2_become 145 = .ok (.aload_n 1, 1) := by decide +kernel
theorem dX2_become_146 : decode cX2_become 146 = .ok (.getfield 67, 3) := by decide +kernel
theorem dX2_become_149 : decode cX2_become 149 = .ok (.putfield 67, 3) := by decide +kernel
theorem dX2_become_152 : decode cX2_become 152 = .ok (.aload_n 0, 1) := by decide +kernel
theorem dX2_become_153 : decode cX2_become 153 = .ok (.aload_n 1, 1) := by decide +kernel
theorem dX2_become_154 : decode cX2_become 154 = .ok (.getfield 36, 3) := by decide +kernel
theorem dX2_become_157 : decode cX2_become 157 = .ok (.putfield 36, 3) := by decide +kernel
theorem dX2_become_160 : decode cX2_become 160 = .ok (.aload_n 0, 1) := by decide +kernel
theorem dX2_become_161 : decode cX2_become 161 = .ok (.aload_n 1, 1) := by decide +kernel
theorem dX2_become_162 : decode cX2_become 162 = .ok (.getfield 42, 3) := by decide +kernel
theorem dX2_become_165 : decode cX2_become 165 = .ok (.putfield 42, 3) := by decide +kernel
theorem dX2_become_168 : decode cX2_become 168 = .ok (.return_, 1) := by decide +kernel
theorem dX2_hasGoer_0 : decode cX2_hasGoer 0 = .ok (.iload_n 1, 1) := by decide +kernel
theorem dX2_hasGoer_1 : decode cX2_hasGoer 1 = .ok (.ifCond .lt 15, 3) := by decide +kernel
theorem dX2_hasGoer_4 : decode cX2_hasGoer 4 = .ok (.iload_n 1, 1) := by decide +kernel
theorem dX2_hasGoer_5 : decode cX2_hasGoer 5 = .ok (.aload_n 0, 1) := by decide +kernel
theorem dX2_hasGoer_6 : decode cX2_hasGoer 6 = .ok (.getfield 58, 3) := by decide +kernel
theorem dX2_hasGoer_9 : decode cX2_hasGoer 9 = .ok (.if_icmp .ge 7, 3) := by decide +kernel
theorem dX2_hasGoer_12 : decode cX2_hasGoer 12 = .ok (.iconst 1, 1) := by decide +kernel
theorem dX2_hasGoer_13 : decode cX2_hasGoer 13 = .ok (.goto 4, 3) := by decide +kernel
theorem dX2_hasGoer_16 : decode cX2_hasGoer 16 = .ok (.iconst 0, 1) := by decide +kernel
theorem dX2_hasGoer_17 : decode cX2_hasGoer 17 = .ok (.ireturn, 1) := by decide +kernel
theorem dX2_isAway_0 : decode cX2_isAway 0 = .ok (.aload_n 0, 1) := by decide +kernel
theorem dX2_isAway_1 : decode cX2_isAway 1 = .ok (.getfield 61, 3) := by decide +kernel
theorem dX2_isAway_4 : decode cX2_isAway 4 = .ok (.iload_n 1, 1) := by decide +kernel
theorem dX2_isAway_5 : decode cX2_isAway 5 = .ok (.ishr, 1) := by decide +kernel
theorem dX2_isAway_6 : decode cX2_isAway 6 = .ok (.iconst 1, 1) := by decide +kernel
theorem dX2_isAway_7 : decode cX2_isAway 7 = .ok (.iand, 1) := by decide +kernel
theorem dX2_isAway_8 : decode cX2_isAway 8 = .ok (.ifCond .eq 7, 3) := by decide +kernel
theorem dX2_isAway_11 : decode cX2_isAway 11 = .ok (.iconst 1, 1) := by decide +kernel
theorem dX2_isAway_12 : decode cX2_isAway 12 = .ok (.goto 4, 3) := by decide +kernel
theorem dX2_isAway_15 : decode cX2_isAway 15 = .ok (.iconst 0, 1) := by decide +kernel
theorem dX2_isAway_16 : decode cX2_isAway 16 = .ok (.ireturn, 1) := by decide +kernel
theorem dX2_putAway_0 : decode cX2_putAway 0 = .ok (.aload_n 0, 1) := by decide +kernel
theorem dX2_putAway_1 : decode cX2_putAway 1 = .ok (.iload_n 2, 1) := by decide +kernel
theorem dX2_putAway_2 : decode cX2_putAway 2 = .ok (.ifCond .eq 14, 3) := by decide +kernel
theorem dX2_putAway_5 : decode cX2_putAway 5 = .ok (.aload_n 0, 1) := by decide +kernel
theorem dX2_putAway_6 : decode cX2_putAway 6 = .ok (.getfield 61, 3) := by decide +kernel
theorem dX2_putAway_9 : decode cX2_putAway 9 = .ok (.iconst 1, 1) := by decide +kernel
theorem dX2_putAway_10 : decode cX2_putAway 10 = .ok (.iload_n 1, 1) := by decide +kernel
theorem dX2_putAway_11 : decode cX2_putAway 11 = .ok (.ishl, 1) := by decide +kernel
theorem dX2_putAway_12 : decode cX2_putAway 12 = .ok (.ior, 1) := by decide +kernel
theorem dX2_putAway_13 : decode cX2_putAway 13 = .ok (.goto 13, 3) := by decide +kernel
theorem dX2_putAway_16 : decode cX2_putAway 16 = .ok (.aload_n 0, 1) := by decide +kernel
theorem dX2_putAway_17 : decode cX2_putAway 17 = .ok (.getfield 61, 3) := by decide +kernel
theorem dX2_putAway_20 : decode cX2_putAway 20 = .ok (.iconst 1, 1) := by decide +kernel
theorem dX2_putAway_21 : decode cX2_putAway 21 = .ok (.iload_n 1, 1) := by decide +kernel
theorem dX2_putAway_22 : decode cX2_putAway 22 = .ok (.ishl, 1) := by decide +kernel
theorem dX2_putAway_23 : decode cX2_putAway 23 = .ok (.iconst (-1), 1) := by decide +kernel
theorem dX2_putAway_24 : decode cX2_putAway 24 = .ok (.ixor, 1) := by decide +kernel
theorem dX2_putAway_25 : decode cX2_putAway 25 = .ok (.iand, 1) := by decide +kernel
theorem dX2_putAway_26 : decode cX2_putAway 26 = .ok (.putfield 61, 3) := by decide +kernel
theorem dX2_putAway_29 : decode cX2_putAway 29 = .ok (.return_, 1) := by decide +kernel
theorem dX2_addGoer_0 : decode cX2_addGoer 0 = .ok (.aload_n 0, 1) := by decide +kernel
theorem dX2_addGoer_1 : decode cX2_addGoer 1 = .ok (.getfield 58, 3) := by decide +kernel
theorem dX2_addGoer_4 : decode cX2_addGoer 4 = .ok (.istore 5, 2) := by decide +kernel
theorem dX2_addGoer_6 : decode cX2_addGoer 6 = .ok (.aload_n 0, 1) := by decide +kernel
theorem dX2_addGoer_7 : decode cX2_addGoer 7 = .ok (.dup, 1) := by decide +kernel
theorem dX2_addGoer_8 : decode cX2_addGoer 8 = .ok (.getfield 58, 3) := by decide +kernel
theorem dX2_addGoer_11 : decode cX2_addGoer 11 = .ok (.iconst 1, 1) := by decide +kernel
theorem dX2_addGoer_12 : decode cX2_addGoer 12 = .ok (.iadd, 1) := by decide +kernel
theorem dX2_addGoer_13 : decode cX2_addGoer 13 = .ok (.putfield 58, 3) := by decide +kernel
theorem dX2_addGoer_16 : decode cX2_addGoer 16 = .ok (.aload_n 0, 1) := by decide +kernel
theorem dX2_addGoer_17 : decode cX2_addGoer 17 = .ok (.getfield 15, 3) := by decide +kernel
theorem dX2_addGoer_20 : decode cX2_addGoer 20 = .ok (.iload 5, 2) := by decide +kernel
theorem dX2_addGoer_22 : decode cX2_addGoer 22 = .ok (.iload_n 1, 1) := by decide +kernel
theorem dX2_addGoer_23 : decode cX2_addGoer 23 = .ok (.iastore, 1) := by decide +kernel
theorem dX2_addGoer_24 : decode cX2_addGoer 24 = .ok (.aload_n 0, 1) := by decide +kernel
theorem dX2_addGoer_25 : decode cX2_addGoer 25 = .ok (.getfield 18, 3) := by decide +kernel
theorem dX2_addGoer_28 : decode cX2_addGoer 28 = .ok (.iload 5, 2) := by decide +kernel
theorem dX2_addGoer_30 : decode cX2_addGoer 30 = .ok (.iload_n 2, 1) := by decide +kernel
theorem dX2_addGoer_31 : decode cX2_addGoer 31 = .ok (.iastore, 1) := by decide +kernel
theorem dX2_addGoer_32 : decode cX2_addGoer 32 = .ok (.aload_n 0, 1) := by decide +kernel
theorem dX2_addGoer_33 : decode cX2_addGoer 33 = .ok (.getfield 21, 3) := by decide +kernel
theorem dX2_addGoer_36 : decode cX2_addGoer 36 = .ok (.iload 5, 2) := by decide +kernel
theorem dX2_addGoer_38 : decode cX2_addGoer 38 = .ok (.iload_n 3, 1) := by decide +kernel
theorem dX2_addGoer_39 : decode cX2_addGoer 39 = .ok (.iastore, 1) := by decide +kernel
theorem dX2_addGoer_40 : decode cX2_addGoer 40 = .ok (.aload_n 0, 1) := by decide +kernel
theorem dX2_addGoer_41 : decode cX2_addGoer 41 = .ok (.getfield 24, 3) := by decide +kernel
theorem dX2_addGoer_44 : decode cX2_addGoer 44 = .ok (.iload 5, 2) := by decide +kernel
theorem dX2_addGoer_46 : decode cX2_addGoer 46 = .ok (.iload 4, 2) := by decide +kernel
theorem dX2_addGoer_48 : decode cX2_addGoer 48 = .ok (.iastore, 1) := by decide +kernel
theorem dX2_addGoer_49 : decode cX2_addGoer 49 = .ok (.aload_n 0, 1) := by decide +kernel
theorem dX2_addGoer_50 : decode cX2_addGoer 50 = .ok (.iload 5, 2) := by decide +kernel
theorem dX2_addGoer_52 : decode cX2_addGoer 52 = .ok (.invokevirtual 70, 3) := by decide +kernel
theorem dX2_addGoer_55 : decode cX2_addGoer 55 = .ok (.iload 5, 2) := by decide +kernel
theorem dX2_addGoer_57 : decode cX2_addGoer 57 = .ok (.ireturn, 1) := by decide +kernel
theorem dX2_furnish_0 : decode cX2_furnish 0 = .ok (.aload_n 0, 1) := by decide +kernel
theorem dX2_furnish_1 : decode cX2_furnish 1 = .ok (.iload_n 1, 1) := by decide +kernel
theorem dX2_furnish_2 : decode cX2_furnish 2 = .ok (.putfield 64, 3) := by decide +kernel
theorem dX2_furnish_5 : decode cX2_furnish 5 = .ok (.iconst 0, 1) := by decide +kernel
theorem dX2_furnish_6 : decode cX2_furnish 6 = .ok (.istore_n 2, 1) := by decide +kernel
theorem dX2_furnish_7 : decode cX2_furnish 7 = .ok (.iload_n 2, 1) := by decide +kernel
theorem dX2_furnish_8 : decode cX2_furnish 8 = .ok (.aload_n 0, 1) := by decide +kernel
theorem dX2_furnish_9 : decode cX2_furnish 9 = .ok (.getfield 58, 3) := by decide +kernel
theorem dX2_furnish_12 : decode cX2_furnish 12 = .ok (.if_icmp .ge 14, 3) := by decide +kernel
theorem dX2_furnish_15 : decode cX2_furnish 15 = .ok (.aload_n 0, 1) := by decide +kernel
theorem dX2_furnish_16 : decode cX2_furnish 16 = .ok (.iload_n 2, 1) := by decide +kernel
theorem dX2_furnish_17 : decode cX2_furnish 17 = .ok (.invokevirtual 70, 3) := by decide +kernel
theorem dX2_furnish_20 : decode cX2_furnish 20 = .ok (.iinc 2 1, 3) := by decide +kernel
theorem dX2_furnish_23 : decode cX2_furnish 23 = .ok (.goto (-16), 3) := by decide +kernel
theorem dX2_furnish_26 : decode cX2_furnish 26 = .ok (.return_, 1) := by decide +kernel
theorem dX2_findWay_0 : decode cX2_findWay 0 = .ok (.aload_n 0, 1) := by decide +kernel
theorem dX2_findWay_1 : decode cX2_findWay 1 = .ok (.getfield 30, 3) := by decide +kernel
theorem dX2_findWay_4 : decode cX2_findWay 4 = .ok (.iload_n 1, 1) := by decide +kernel
theorem dX2_findWay_5 : decode cX2_findWay 5 = .ok (.aload_n 0, 1) := by decide +kernel
theorem dX2_findWay_6 : decode cX2_findWay 6 = .ok (.getfield 48, 3) := by decide +kernel
theorem dX2_findWay_9 : decode cX2_findWay 9 = .ok (.aload_n 0, 1) := by decide +kernel
theorem dX2_findWay_10 : decode cX2_findWay 10 = .ok (.iload_n 1, 1) := by decide +kernel
theorem dX2_findWay_11 : decode cX2_findWay 11 = .ok (.invokevirtual 74, 3) := by decide +kernel
theorem dX2_findWay_14 : decode cX2_findWay 14 = .ok (.invokevirtual 78, 3) := by decide +kernel
theorem dX2_findWay_17 : decode cX2_findWay 17 = .ok (.iastore, 1) := by decide +kernel
theorem dX2_findWay_18 : decode cX2_findWay 18 = .ok (.return_, 1) := by decide +kernel
theorem dX2_cellOfWay_0 : decode cX2_cellOfWay 0 = .ok (.aload_n 0, 1) := by decide +kernel
theorem dX2_cellOfWay_1 : decode cX2_cellOfWay 1 = .ok (.getfield 48, 3) := by decide +kernel
theorem dX2_cellOfWay_4 : decode cX2_cellOfWay 4 = .ok (.iload_n 2, 1) := by decide +kernel
theorem dX2_cellOfWay_5 : decode cX2_cellOfWay 5 = .ok (.aload_n 0, 1) := by decide +kernel
theorem dX2_cellOfWay_6 : decode cX2_cellOfWay 6 = .ok (.iload_n 1, 1) := by decide +kernel
theorem dX2_cellOfWay_7 : decode cX2_cellOfWay 7 = .ok (.invokevirtual 74, 3) := by decide +kernel
theorem dX2_cellOfWay_10 : decode cX2_cellOfWay 10 = .ok (.invokevirtual 81, 3) := by decide +kernel
theorem dX2_cellOfWay_13 : decode cX2_cellOfWay 13 = .ok (.ireturn, 1) := by decide +kernel
theorem dX2_walkTo_0 : decode cX2_walkTo 0 = .ok (.aload_n 0, 1) := by decide +kernel
theorem dX2_walkTo_1 : decode cX2_walkTo 1 = .ok (.getfield 15, 3) := by decide +kernel
theorem dX2_walkTo_4 : decode cX2_walkTo 4 = .ok (.iload_n 1, 1) := by decide +kernel
theorem dX2_walkTo_5 : decode cX2_walkTo 5 = .ok (.iaload, 1) := by decide +kernel
theorem dX2_walkTo_6 : decode cX2_walkTo 6 = .ok (.iconst 2, 1) := by decide +kernel
theorem dX2_walkTo_7 : decode cX2_walkTo 7 = .ok (.if_icmp .eq 13, 3) := by decide +kernel
theorem dX2_walkTo_10 : decode cX2_walkTo 10 = .ok (.aload_n 0, 1) := by decide +kernel
theorem dX2_walkTo_11 : decode cX2_walkTo 11 = .ok (.getfield 15, 3) := by decide +kernel
theorem dX2_walkTo_14 : decode cX2_walkTo 14 = .ok (.iload_n 1, 1) := by decide +kernel
theorem dX2_walkTo_15 : decode cX2_walkTo 15 = .ok (.iaload, 1) := by decide +kernel
theorem dX2_walkTo_16 : decode cX2_walkTo 16 = .ok (.iconst 5, 1) := by decide +kernel
theorem dX2_walkTo_17 : decode cX2_walkTo 17 = .ok (.if_icmp .ne 7, 3) := by decide +kernel
theorem dX2_walkTo_20 : decode cX2_walkTo 20 = .ok (.iconst 1, 1) := by decide +kernel
theorem dX2_walkTo_21 : decode cX2_walkTo 21 = .ok (.goto 4, 3) := by decide +kernel
theorem dX2_walkTo_24 : decode cX2_walkTo 24 = .ok (.iconst 0, 1) := by decide +kernel
theorem dX2_walkTo_25 : decode cX2_walkTo 25 = .ok (.istore_n 2, 1) := by decide +kernel
theorem dX2_walkTo_26 : decode cX2_walkTo 26 = .ok (.aload_n 0, 1) := by decide +kernel
theorem dX2_walkTo_27 : decode cX2_walkTo 27 = .ok (.getfield 48, 3) := by decide +kernel
theorem dX2_walkTo_30 : decode cX2_walkTo 30 = .ok (.aload_n 0, 1) := by decide +kernel
theorem dX2_walkTo_31 : decode cX2_walkTo 31 = .ok (.getfield 21, 3) := by decide +kernel
theorem dX2_walkTo_34 : decode cX2_walkTo 34 = .ok (.iload_n 1, 1) := by decide +kernel
theorem dX2_walkTo_35 : decode cX2_walkTo 35 = .ok (.iaload, 1) := by decide +kernel
theorem dX2_walkTo_36 : decode cX2_walkTo 36 = .ok (.aload_n 0, 1) := by decide +kernel
theorem dX2_walkTo_37 : decode cX2_walkTo 37 = .ok (.getfield 24, 3) := by decide +kernel
theorem dX2_walkTo_40 : decode cX2_walkTo 40 = .ok (.iload_n 1, 1) := by decide +kernel
theorem dX2_walkTo_41 : decode cX2_walkTo 41 = .ok (.iaload, 1) := by decide +kernel
theorem dX2_walkTo_42 : decode cX2_walkTo 42 = .ok (.iload_n 2, 1) := by decide +kernel
theorem dX2_walkTo_43 : decode cX2_walkTo 43 = .ok (.ifCond .eq 8, 3) := by decide +kernel
theorem dX2_walkTo_46 : decode cX2_walkTo 46 = .ok (.ldc 87, 2) := by decide +kernel
theorem dX2_walkTo_48 : decode cX2_walkTo 48 = .ok (.goto 12, 3) := by decide +kernel
theorem dX2_walkTo_51 : decode cX2_walkTo 51 = .ok (.ldc 87, 2) := by decide +kernel
theorem dX2_walkTo_53 : decode cX2_walkTo 53 = .ok (.aload_n 0, 1) := by decide +kernel
theorem dX2_walkTo_54 : decode cX2_walkTo 54 = .ok (.getfield 64, 3) := by decide +kernel
theorem dX2_walkTo_57 : decode cX2_walkTo 57 = .ok (.iconst (-1), 1) := by decide +kernel
theorem dX2_walkTo_58 : decode cX2_walkTo 58 = .ok (.ixor, 1) := by decide +kernel
theorem dX2_walkTo_59 : decode cX2_walkTo 59 = .ok (.iand, 1) := by decide +kernel
theorem dX2_walkTo_60 : decode cX2_walkTo 60 = .ok (.invokevirtual 88, 3) := by decide +kernel
theorem dX2_walkTo_63 : decode cX2_walkTo 63 = .ok (.ireturn, 1) := by decide +kernel
theorem dX2_treads_0 : decode cX2_treads 0 = .ok (.aload_n 0, 1) := by decide +kernel
theorem dX2_treads_1 : decode cX2_treads 1 = .ok (.iload_n 1, 1) := by decide +kernel
theorem dX2_treads_2 : decode cX2_treads 2 = .ok (.invokevirtual 92, 3) := by decide +kernel
theorem dX2_treads_5 : decode cX2_treads 5 = .ok (.ifCond .ne 12, 3) := by decide +kernel
theorem dX2_treads_8 : decode cX2_treads 8 = .ok (.aload_n 0, 1) := by decide +kernel
theorem dX2_treads_9 : decode cX2_treads 9 = .ok (.getfield 30, 3) := by decide +kernel
theorem dX2_treads_12 : decode cX2_treads 12 = .ok (.iload_n 1, 1) := by decide +kernel
theorem dX2_treads_13 : decode cX2_treads 13 = .ok (.iaload, 1) := by decide +kernel
theorem dX2_treads_14 : decode cX2_treads 14 = .ok (.ifCond .ne 5, 3) := by decide +kernel
theorem dX2_treads_17 : decode cX2_treads 17 = .ok (.iconst 0, 1) := by decide +kernel
theorem dX2_treads_18 : decode cX2_treads 18 = .ok (.ireturn, 1) := by decide +kernel
theorem dX2_treads_19 : decode cX2_treads 19 = .ok (.aload_n 0, 1) := by decide +kernel
theorem dX2_treads_20 : decode cX2_treads 20 = .ok (.getfield 30, 3) := by decide +kernel
theorem dX2_treads_23 : decode cX2_treads 23 = .ok (.iload_n 1, 1) := by decide +kernel
theorem dX2_treads_24 : decode cX2_treads 24 = .ok (.iaload, 1) := by decide +kernel
theorem dX2_treads_25 : decode cX2_treads 25 = .ok (.iload_n 2, 1) := by decide +kernel
theorem dX2_treads_26 : decode cX2_treads 26 = .ok (.invokestatic 96, 3) := by decide +kernel
theorem dX2_treads_29 : decode cX2_treads 29 = .ok (.ifCond .eq 12, 3) := by decide +kernel
theorem dX2_treads_32 : decode cX2_treads 32 = .ok (.aload_n 0, 1) := by decide +kernel
theorem dX2_treads_33 : decode cX2_treads 33 = .ok (.iload_n 1, 1) := by decide +kernel
theorem dX2_treads_34 : decode cX2_treads 34 = .ok (.iload_n 3, 1) := by decide +kernel
theorem dX2_treads_35 : decode cX2_treads 35 = .ok (.invokevirtual 102, 3) := by decide +kernel
theorem dX2_treads_38 : decode cX2_treads 38 = .ok (.goto 4, 3) := by decide +kernel
theorem dX2_treads_41 : decode cX2_treads 41 = .ok (.iconst 0, 1) := by decide +kernel
theorem dX2_treads_42 : decode cX2_treads 42 = .ok (.istore 4, 2) := by decide +kernel
theorem dX2_treads_44 : decode cX2_treads 44 = .ok (.aload_n 0, 1) := by decide +kernel
theorem dX2_treads_45 : decode cX2_treads 45 = .ok (.getfield 15, 3) := by decide +kernel
theorem dX2_treads_48 : decode cX2_treads 48 = .ok (.iload_n 1, 1) := by decide +kernel
theorem dX2_treads_49 : decode cX2_treads 49 = .ok (.iaload, 1) := by decide +kernel
theorem dX2_treads_50 : decode cX2_treads 50 = .ok (.tableswitch 103 4 6 #[26, 52, 79], 26) := by decide +kernel
theorem dX2_treads_76 : decode cX2_treads 76 = .ok (.iload 4, 2) := by decide +kernel
theorem dX2_treads_78 : decode cX2_treads 78 = .ok (.iload_n 2, 1) := by decide +kernel
theorem dX2_treads_79 : decode cX2_treads 79 = .ok (.aload_n 0, 1) := by decide +kernel
theorem dX2_treads_80 : decode cX2_treads 80 = .ok (.getfield 24, 3) := by decide +kernel
theorem dX2_treads_83 : decode cX2_treads 83 = .ok (.iload_n 1, 1) := by decide +kernel
theorem dX2_treads_84 : decode cX2_treads 84 = .ok (.iaload, 1) := by decide +kernel
theorem dX2_treads_85 : decode cX2_treads 85 = .ok (.if_icmp .ne 14, 3) := by decide +kernel
theorem dX2_treads_88 : decode cX2_treads 88 = .ok (.aload_n 0, 1) := by decide +kernel
theorem dX2_treads_89 : decode cX2_treads 89 = .ok (.getfield 18, 3) := by decide +kernel
theorem dX2_treads_92 : decode cX2_treads 92 = .ok (.iload_n 1, 1) := by decide +kernel
theorem dX2_treads_93 : decode cX2_treads 93 = .ok (.iaload, 1) := by decide +kernel
theorem dX2_treads_94 : decode cX2_treads 94 = .ok (.iload_n 3, 1) := by decide +kernel
theorem dX2_treads_95 : decode cX2_treads 95 = .ok (.imul, 1) := by decide +kernel
theorem dX2_treads_96 : decode cX2_treads 96 = .ok (.goto 4, 3) := by decide +kernel
theorem dX2_treads_99 : decode cX2_treads 99 = .ok (.iconst 0, 1) := by decide +kernel
theorem dX2_treads_100 : decode cX2_treads 100 = .ok (.iadd, 1) := by decide +kernel
theorem dX2_treads_101 : decode cX2_treads 101 = .ok (.ireturn, 1) := by decide +kernel
theorem dX2_treads_102 : decode cX2_treads 102 = .ok (.iload 4, 2) := by decide +kernel
theorem dX2_treads_104 : decode cX2_treads 104 = .ok (.iconst 1, 1) := by decide +kernel
theorem dX2_treads_105 : decode cX2_treads 105 = .ok (.aload_n 0, 1) := by decide +kernel
theorem dX2_treads_106 : decode cX2_treads 106 = .ok (.getfield 24, 3) := by decide +kernel
theorem dX2_treads_109 : decode cX2_treads 109 = .ok (.iload_n 1, 1) := by decide +kernel
theorem dX2_treads_110 : decode cX2_treads 110 = .ok (.iaload, 1) := by decide +kernel
theorem dX2_treads_111 : decode cX2_treads 111 = .ok (.ishl, 1) := by decide +kernel
theorem dX2_treads_112 : decode cX2_treads 112 = .ok (.invokestatic 105, 3) := by decide +kernel
theorem dX2_treads_115 : decode cX2_treads 115 = .ok (.iload_n 2, 1) := by decide +kernel
theorem dX2_treads_116 : decode cX2_treads 116 = .ok (.invokestatic 96, 3) := by decide +kernel
theorem dX2_treads_119 : decode cX2_treads 119 = .ok (.ifCond .eq 7, 3) := by decide +kernel
theorem dX2_treads_122 : decode cX2_treads 122 = .ok (.iload_n 3, 1) := by decide +kernel
theorem dX2_treads_123 : decode cX2_treads 123 = .ok (.goto 4, 3) := by decide +kernel
theorem dX2_treads_126 : decode cX2_treads 126 = .ok (.iconst 0, 1) := by decide +kernel
theorem dX2_treads_127 : decode cX2_treads 127 = .ok (.iadd, 1) := by decide +kernel
theorem dX2_treads_128 : decode cX2_treads 128 = .ok (.ireturn, 1) := by decide +kernel
theorem dX2_treads_129 : decode cX2_treads 129 = .ok (.iload 4, 2) := by decide +kernel
theorem dX2_treads_131 : decode cX2_treads 131 = .ok (.iload_n 2, 1) := by decide +kernel
theorem dX2_treads_132 : decode cX2_treads 132 = .ok (.aload_n 0, 1) := by decide +kernel
theorem dX2_treads_133 : decode cX2_treads 133 = .ok (.getfield 21, 3) := by decide +kernel
theorem dX2_treads_136 : decode cX2_treads 136 = .ok (.iload_n 1, 1) := by decide +kernel
theorem dX2_treads_137 : decode cX2_treads 137 = .ok (.iaload, 1) := by decide +kernel
theorem dX2_treads_138 : decode cX2_treads 138 = .ok (.if_icmp .ne 12, 3) := by decide +kernel
theorem dX2_treads_141 : decode cX2_treads 141 = .ok (.aload_n 0, 1) := by decide +kernel
theorem dX2_treads_142 : decode cX2_treads 142 = .ok (.iload_n 1, 1) := by decide +kernel
theorem dX2_treads_143 : decode cX2_treads 143 = .ok (.iload_n 3, 1) := by decide +kernel
theorem dX2_treads_144 : decode cX2_treads 144 = .ok (.invokevirtual 108, 3) := by decide +kernel
theorem dX2_treads_147 : decode cX2_treads 147 = .ok (.goto 4, 3) := by decide +kernel
theorem dX2_treads_150 : decode cX2_treads 150 = .ok (.iconst 0, 1) := by decide +kernel
theorem dX2_treads_151 : decode cX2_treads 151 = .ok (.iadd, 1) := by decide +kernel
theorem dX2_treads_152 : decode cX2_treads 152 = .ok (.ireturn, 1) := by decide +kernel
theorem dX2_treads_153 : decode cX2_treads 153 = .ok (.iload 4, 2) := by decide +kernel
theorem dX2_treads_155 : decode cX2_treads 155 = .ok (.ireturn, 1) := by decide +kernel
theorem dX2_treadsOnWay_0 : decode cX2_treadsOnWay 0 = .ok (.aload_n 0, 1) := by decide +kernel
theorem dX2_treadsOnWay_1 : decode cX2_treadsOnWay 1 = .ok (.getfield 15, 3) := by decide +kernel
theorem dX2_treadsOnWay_4 : decode cX2_treadsOnWay 4 = .ok (.iload_n 1, 1) := by decide +kernel
theorem dX2_treadsOnWay_5 : decode cX2_treadsOnWay 5 = .ok (.iaload, 1) := by decide +kernel
theorem dX2_treadsOnWay_6 : decode cX2_treadsOnWay 6 = .ok (.tableswitch 58 1 6 #[38, 58, 42, 38, 58, 42], 38) := by decide +kernel
theorem dX2_treadsOnWay_44 : decode cX2_treadsOnWay 44 = .ok (.iconst 2, 1) := by decide +kernel
theorem dX2_treadsOnWay_45 : decode cX2_treadsOnWay 45 = .ok (.iload_n 2, 1) := by decide +kernel
theorem dX2_treadsOnWay_46 : decode cX2_treadsOnWay 46 = .ok (.imul, 1) := by decide +kernel
theorem dX2_treadsOnWay_47 : decode cX2_treadsOnWay 47 = .ok (.ireturn, 1) := by decide +kernel
theorem dX2_treadsOnWay_48 : decode cX2_treadsOnWay 48 = .ok (.aload_n 0, 1) := by decide +kernel
theorem dX2_treadsOnWay_49 : decode cX2_treadsOnWay 49 = .ok (.getfield 67, 3) := by decide +kernel
theorem dX2_treadsOnWay_52 : decode cX2_treadsOnWay 52 = .ok (.iload_n 2, 1) := by decide +kernel
theorem dX2_treadsOnWay_53 : decode cX2_treadsOnWay 53 = .ok (.iadd, 1) := by decide +kernel
theorem dX2_treadsOnWay_54 : decode cX2_treadsOnWay 54 = .ok (.iconst 2, 1) := by decide +kernel
theorem dX2_treadsOnWay_55 : decode cX2_treadsOnWay 55 = .ok (.idiv, 1) := by decide +kernel
theorem dX2_treadsOnWay_56 : decode cX2_treadsOnWay 56 = .ok (.aload_n 0, 1) := by decide +kernel
theorem dX2_treadsOnWay_57 : decode cX2_treadsOnWay 57 = .ok (.getfield 67, 3) := by decide +kernel
theorem dX2_treadsOnWay_60 : decode cX2_treadsOnWay 60 = .ok (.iconst 2, 1) := by decide +kernel
theorem dX2_treadsOnWay_61 : decode cX2_treadsOnWay 61 = .ok (.idiv, 1) := by decide +kernel
theorem dX2_treadsOnWay_62 : decode cX2_treadsOnWay 62 = .ok (.isub, 1) := by decide +kernel
theorem dX2_treadsOnWay_63 : decode cX2_treadsOnWay 63 = .ok (.ireturn, 1) := by decide +kernel
theorem dX2_treadsOnWay_64 : decode cX2_treadsOnWay 64 = .ok (.iload_n 2, 1) := by decide +kernel
theorem dX2_treadsOnWay_65 : decode cX2_treadsOnWay 65 = .ok (.ireturn, 1) := by decide +kernel
theorem dX2_treadsOfRow_0 : decode cX2_treadsOfRow 0 = .ok (.iconst 0, 1) := by decide +kernel
theorem dX2_treadsOfRow_1 : decode cX2_treadsOfRow 1 = .ok (.istore_n 3, 1) := by decide +kernel
theorem dX2_treadsOfRow_2 : decode cX2_treadsOfRow 2 = .ok (.iconst 0, 1) := by decide +kernel
theorem dX2_treadsOfRow_3 : decode cX2_treadsOfRow 3 = .ok (.istore 4, 2) := by decide +kernel
theorem dX2_treadsOfRow_5 : decode cX2_treadsOfRow 5 = .ok (.iload 4, 2) := by decide +kernel
theorem dX2_treadsOfRow_7 : decode cX2_treadsOfRow 7 = .ok (.iload_n 2, 1) := by decide +kernel
theorem dX2_treadsOfRow_8 : decode cX2_treadsOfRow 8 = .ok (.if_icmp .ge 30, 3) := by decide +kernel
theorem dX2_treadsOfRow_11 : decode cX2_treadsOfRow 11 = .ok (.iload_n 3, 1) := by decide +kernel
theorem dX2_treadsOfRow_12 : decode cX2_treadsOfRow 12 = .ok (.aload_n 0, 1) := by decide +kernel
theorem dX2_treadsOfRow_13 : decode cX2_treadsOfRow 13 = .ok (.getfield 27, 3) := by decide +kernel
theorem dX2_treadsOfRow_16 : decode cX2_treadsOfRow 16 = .ok (.iload_n 1, 1) := by decide +kernel
theorem dX2_treadsOfRow_17 : decode cX2_treadsOfRow 17 = .ok (.iconst 4, 1) := by decide +kernel
theorem dX2_treadsOfRow_18 : decode cX2_treadsOfRow 18 = .ok (.imul, 1) := by decide +kernel
theorem dX2_treadsOfRow_19 : decode cX2_treadsOfRow 19 = .ok (.aload_n 0, 1) := by decide +kernel
theorem dX2_treadsOfRow_20 : decode cX2_treadsOfRow 20 = .ok (.getfield 67, 3) := by decide +kernel
theorem dX2_treadsOfRow_23 : decode cX2_treadsOfRow 23 = .ok (.iload 4, 2) := by decide +kernel
theorem dX2_treadsOfRow_25 : decode cX2_treadsOfRow 25 = .ok (.iadd, 1) := by decide +kernel
theorem dX2_treadsOfRow_26 : decode cX2_treadsOfRow 26 = .ok (.iconst 4, 1) := by decide +kernel
theorem dX2_treadsOfRow_27 : decode cX2_treadsOfRow 27 = .ok (.irem, 1) := by decide +kernel
theorem dX2_treadsOfRow_28 : decode cX2_treadsOfRow 28 = .ok (.iadd, 1) := by decide +kernel
theorem dX2_treadsOfRow_29 : decode cX2_treadsOfRow 29 = .ok (.iaload, 1) := by decide +kernel
theorem dX2_treadsOfRow_30 : decode cX2_treadsOfRow 30 = .ok (.iadd, 1) := by decide +kernel
theorem dX2_treadsOfRow_31 : decode cX2_treadsOfRow 31 = .ok (.istore_n 3, 1) := by decide +kernel
theorem dX2_treadsOfRow_32 : decode cX2_treadsOfRow 32 = .ok (.iinc 4 1, 3) := by decide +kernel
theorem dX2_treadsOfRow_35 : decode cX2_treadsOfRow 35 = .ok (.goto (-30), 3) := by decide +kernel
theorem dX2_treadsOfRow_38 : decode cX2_treadsOfRow 38 = .ok (.iload_n 3, 1) := by decide +kernel
theorem dX2_treadsOfRow_39 : decode cX2_treadsOfRow 39 = .ok (.ireturn, 1) := by decide +kernel
theorem dX2_troddenCells_0 : decode cX2_troddenCells 0 = .ok (.iconst 0, 1) := by decide +kernel
theorem dX2_troddenCells_1 : decode cX2_troddenCells 1 = .ok (.istore_n 1, 1) := by decide +kernel
theorem dX2_troddenCells_2 : decode cX2_troddenCells 2 = .ok (.iconst 0, 1) := by decide +kernel
theorem dX2_troddenCells_3 : decode cX2_troddenCells 3 = .ok (.istore_n 2, 1) := by decide +kernel
theorem dX2_troddenCells_4 : decode cX2_troddenCells 4 = .ok (.iload_n 2, 1) := by decide +kernel
theorem dX2_troddenCells_5 : decode cX2_troddenCells 5 = .ok (.aload_n 0, 1) := by decide +kernel
theorem dX2_troddenCells_6 : decode cX2_troddenCells 6 = .ok (.getfield 58, 3) := by decide +kernel
theorem dX2_troddenCells_9 : decode cX2_troddenCells 9 = .ok (.if_icmp .ge 39, 3) := by decide +kernel
theorem dX2_troddenCells_12 : decode cX2_troddenCells 12 = .ok (.iconst 0, 1) := by decide +kernel
theorem dX2_troddenCells_13 : decode cX2_troddenCells 13 = .ok (.istore_n 3, 1) := by decide +kernel
theorem dX2_troddenCells_14 : decode cX2_troddenCells 14 = .ok (.iload_n 3, 1) := by decide +kernel
theorem dX2_troddenCells_15 : decode cX2_troddenCells 15 = .ok (.bipush 16, 2) := by decide +kernel
theorem dX2_troddenCells_17 : decode cX2_troddenCells 17 = .ok (.if_icmp .ge 25, 3) := by decide +kernel
theorem dX2_troddenCells_20 : decode cX2_troddenCells 20 = .ok (.aload_n 0, 1) := by decide +kernel
theorem dX2_troddenCells_21 : decode cX2_troddenCells 21 = .ok (.iload_n 2, 1) := by decide +kernel
theorem dX2_troddenCells_22 : decode cX2_troddenCells 22 = .ok (.iload_n 3, 1) := by decide +kernel
theorem dX2_troddenCells_23 : decode cX2_troddenCells 23 = .ok (.iconst 1, 1) := by decide +kernel
theorem dX2_troddenCells_24 : decode cX2_troddenCells 24 = .ok (.invokevirtual 111, 3) := by decide +kernel
theorem dX2_troddenCells_27 : decode cX2_troddenCells 27 = .ok (.ifCond .le 9, 3) := by decide +kernel
theorem dX2_troddenCells_30 : decode cX2_troddenCells 30 = .ok (.iload_n 1, 1) := by decide +kernel
theorem dX2_troddenCells_31 : decode cX2_troddenCells 31 = .ok (.iconst 1, 1) := by decide +kernel
theorem dX2_troddenCells_32 : decode cX2_troddenCells 32 = .ok (.iload_n 3, 1) := by decide +kernel
theorem dX2_troddenCells_33 : decode cX2_troddenCells 33 = .ok (.ishl, 1) := by decide +kernel
theorem dX2_troddenCells_34 : decode cX2_troddenCells 34 = .ok (.ior, 1) := by decide +kernel
theorem dX2_troddenCells_35 : decode cX2_troddenCells 35 = .ok (.istore_n 1, 1) := by decide +kernel
theorem dX2_troddenCells_36 : decode cX2_troddenCells 36 = .ok (.iinc 3 1, 3) := by decide +kernel
theorem dX2_troddenCells_39 : decode cX2_troddenCells 39 = .ok (.goto (-25), 3) := by decide +kernel
theorem dX2_troddenCells_42 : decode cX2_troddenCells 42 = .ok (.iinc 2 1, 3) := by decide +kernel
theorem dX2_troddenCells_45 : decode cX2_troddenCells 45 = .ok (.goto (-41), 3) := by decide +kernel
theorem dX2_troddenCells_48 : decode cX2_troddenCells 48 = .ok (.iload_n 1, 1) := by decide +kernel
theorem dX2_troddenCells_49 : decode cX2_troddenCells 49 = .ok (.ireturn, 1) := by decide +kernel
theorem dX2_printOf_0 : decode cX2_printOf 0 = .ok (.iconst 0, 1) := by decide +kernel
theorem dX2_printOf_1 : decode cX2_printOf 1 = .ok (.istore_n 3, 1) := by decide +kernel
theorem dX2_printOf_2 : decode cX2_printOf 2 = .ok (.iconst 0, 1) := by decide +kernel
theorem dX2_printOf_3 : decode cX2_printOf 3 = .ok (.istore 4, 2) := by decide +kernel
theorem dX2_printOf_5 : decode cX2_printOf 5 = .ok (.iload 4, 2) := by decide +kernel
theorem dX2_printOf_7 : decode cX2_printOf 7 = .ok (.bipush 16, 2) := by decide +kernel
theorem dX2_printOf_9 : decode cX2_printOf 9 = .ok (.if_icmp .ge 40, 3) := by decide +kernel
theorem dX2_printOf_12 : decode cX2_printOf 12 = .ok (.aload_n 0, 1) := by decide +kernel
theorem dX2_printOf_13 : decode cX2_printOf 13 = .ok (.iload_n 1, 1) := by decide +kernel
theorem dX2_printOf_14 : decode cX2_printOf 14 = .ok (.iload 4, 2) := by decide +kernel
theorem dX2_printOf_16 : decode cX2_printOf 16 = .ok (.iload_n 2, 1) := by decide +kernel
theorem dX2_printOf_17 : decode cX2_printOf 17 = .ok (.invokevirtual 111, 3) := by decide +kernel
theorem dX2_printOf_20 : decode cX2_printOf 20 = .ok (.aload_n 0, 1) := by decide +kernel
theorem dX2_printOf_21 : decode cX2_printOf 21 = .ok (.getfield 33, 3) := by decide +kernel
theorem dX2_printOf_24 : decode cX2_printOf 24 = .ok (.iload_n 1, 1) := by decide +kernel
theorem dX2_printOf_25 : decode cX2_printOf 25 = .ok (.bipush 16, 2) := by decide +kernel
theorem dX2_printOf_27 : decode cX2_printOf 27 = .ok (.imul, 1) := by decide +kernel
theorem dX2_printOf_28 : decode cX2_printOf 28 = .ok (.iload 4, 2) := by decide +kernel
theorem dX2_printOf_30 : decode cX2_printOf 30 = .ok (.iadd, 1) := by decide +kernel
theorem dX2_printOf_31 : decode cX2_printOf 31 = .ok (.iaload, 1) := by decide +kernel
theorem dX2_printOf_32 : decode cX2_printOf 32 = .ok (.imul, 1) := by decide +kernel
theorem dX2_printOf_33 : decode cX2_printOf 33 = .ok (.ifCond .le 10, 3) := by decide +kernel
theorem dX2_printOf_36 : decode cX2_printOf 36 = .ok (.iload_n 3, 1) := by decide +kernel
theorem dX2_printOf_37 : decode cX2_printOf 37 = .ok (.iconst 1, 1) := by decide +kernel
theorem dX2_printOf_38 : decode cX2_printOf 38 = .ok (.iload 4, 2) := by decide +kernel
theorem dX2_printOf_40 : decode cX2_printOf 40 = .ok (.ishl, 1) := by decide +kernel
theorem dX2_printOf_41 : decode cX2_printOf 41 = .ok (.ior, 1) := by decide +kernel
theorem dX2_printOf_42 : decode cX2_printOf 42 = .ok (.istore_n 3, 1) := by decide +kernel
theorem dX2_printOf_43 : decode cX2_printOf 43 = .ok (.iinc 4 1, 3) := by decide +kernel
theorem dX2_printOf_46 : decode cX2_printOf 46 = .ok (.goto (-41), 3) := by decide +kernel
theorem dX2_printOf_49 : decode cX2_printOf 49 = .ok (.iload_n 3, 1) := by decide +kernel
theorem dX2_printOf_50 : decode cX2_printOf 50 = .ok (.ireturn, 1) := by decide +kernel
theorem dX2_gain_0 : decode cX2_gain 0 = .ok (.iconst 0, 1) := by decide +kernel
theorem dX2_gain_1 : decode cX2_gain 1 = .ok (.istore_n 3, 1) := by decide +kernel
theorem dX2_gain_2 : decode cX2_gain 2 = .ok (.iconst 0, 1) := by decide +kernel
theorem dX2_gain_3 : decode cX2_gain 3 = .ok (.istore 4, 2) := by decide +kernel
theorem dX2_gain_5 : decode cX2_gain 5 = .ok (.iload 4, 2) := by decide +kernel
theorem dX2_gain_7 : decode cX2_gain 7 = .ok (.aload_n 0, 1) := by decide +kernel
theorem dX2_gain_8 : decode cX2_gain 8 = .ok (.getfield 58, 3) := by decide +kernel
theorem dX2_gain_11 : decode cX2_gain 11 = .ok (.if_icmp .ge 33, 3) := by decide +kernel
theorem dX2_gain_14 : decode cX2_gain 14 = .ok (.iload_n 3, 1) := by decide +kernel
theorem dX2_gain_15 : decode cX2_gain 15 = .ok (.aload_n 0, 1) := by decide +kernel
theorem dX2_gain_16 : decode cX2_gain 16 = .ok (.iload 4, 2) := by decide +kernel
theorem dX2_gain_18 : decode cX2_gain 18 = .ok (.iload_n 1, 1) := by decide +kernel
theorem dX2_gain_19 : decode cX2_gain 19 = .ok (.iload_n 2, 1) := by decide +kernel
theorem dX2_gain_20 : decode cX2_gain 20 = .ok (.invokevirtual 111, 3) := by decide +kernel
theorem dX2_gain_23 : decode cX2_gain 23 = .ok (.aload_n 0, 1) := by decide +kernel
theorem dX2_gain_24 : decode cX2_gain 24 = .ok (.getfield 33, 3) := by decide +kernel
theorem dX2_gain_27 : decode cX2_gain 27 = .ok (.iload 4, 2) := by decide +kernel
theorem dX2_gain_29 : decode cX2_gain 29 = .ok (.bipush 16, 2) := by decide +kernel
theorem dX2_gain_31 : decode cX2_gain 31 = .ok (.imul, 1) := by decide +kernel
theorem dX2_gain_32 : decode cX2_gain 32 = .ok (.iload_n 1, 1) := by decide +kernel
theorem dX2_gain_33 : decode cX2_gain 33 = .ok (.iadd, 1) := by decide +kernel
theorem dX2_gain_34 : decode cX2_gain 34 = .ok (.iaload, 1) := by decide +kernel
theorem dX2_gain_35 : decode cX2_gain 35 = .ok (.imul, 1) := by decide +kernel
theorem dX2_gain_36 : decode cX2_gain 36 = .ok (.iadd, 1) := by decide +kernel
theorem dX2_gain_37 : decode cX2_gain 37 = .ok (.istore_n 3, 1) := by decide +kernel
theorem dX2_gain_38 : decode cX2_gain 38 = .ok (.iinc 4 1, 3) := by decide +kernel
theorem dX2_gain_41 : decode cX2_gain 41 = .ok (.goto (-36), 3) := by decide +kernel
theorem dX2_gain_44 : decode cX2_gain 44 = .ok (.iload_n 3, 1) := by decide +kernel
theorem dX2_gain_45 : decode cX2_gain 45 = .ok (.ireturn, 1) := by decide +kernel
theorem dX2_spend_0 : decode cX2_spend 0 = .ok (.iconst 0, 1) := by decide +kernel
theorem dX2_spend_1 : decode cX2_spend 1 = .ok (.istore_n 2, 1) := by decide +kernel
theorem dX2_spend_2 : decode cX2_spend 2 = .ok (.iload_n 2, 1) := by decide +kernel
theorem dX2_spend_3 : decode cX2_spend 3 = .ok (.bipush 16, 2) := by decide +kernel
theorem dX2_spend_5 : decode cX2_spend 5 = .ok (.if_icmp .ge 24, 3) := by decide +kernel
theorem dX2_spend_8 : decode cX2_spend 8 = .ok (.aload_n 0, 1) := by decide +kernel
theorem dX2_spend_9 : decode cX2_spend 9 = .ok (.getfield 9, 3) := by decide +kernel
theorem dX2_spend_12 : decode cX2_spend 12 = .ok (.iload_n 2, 1) := by decide +kernel
theorem dX2_spend_13 : decode cX2_spend 13 = .ok (.dup2, 1) := by decide +kernel
theorem dX2_spend_14 : decode cX2_spend 14 = .ok (.iaload, 1) := by decide +kernel
theorem dX2_spend_15 : decode cX2_spend 15 = .ok (.aload_n 0, 1) := by decide +kernel
theorem dX2_spend_16 : decode cX2_spend 16 = .ok (.iload_n 2, 1) := by decide +kernel
theorem dX2_spend_17 : decode cX2_spend 17 = .ok (.iload_n 1, 1) := by decide +kernel
theorem dX2_spend_18 : decode cX2_spend 18 = .ok (.invokevirtual 114, 3) := by decide +kernel
theorem dX2_spend_21 : decode cX2_spend 21 = .ok (.iadd, 1) := by decide +kernel
theorem dX2_spend_22 : decode cX2_spend 22 = .ok (.iastore, 1) := by decide +kernel
theorem dX2_spend_23 : decode cX2_spend 23 = .ok (.iinc 2 1, 3) := by decide +kernel
theorem dX2_spend_26 : decode cX2_spend 26 = .ok (.goto (-24), 3) := by decide +kernel
theorem dX2_spend_29 : decode cX2_spend 29 = .ok (.aload_n 0, 1) := by decide +kernel
theorem dX2_spend_30 : decode cX2_spend 30 = .ok (.dup, 1) := by decide +kernel
theorem dX2_spend_31 : decode cX2_spend 31 = .ok (.getfield 67, 3) := by decide +kernel
theorem dX2_spend_34 : decode cX2_spend 34 = .ok (.iload_n 1, 1) := by decide +kernel
theorem dX2_spend_35 : decode cX2_spend 35 = .ok (.iadd, 1) := by decide +kernel
theorem dX2_spend_36 : decode cX2_spend 36 = .ok (.putfield 67, 3) := by decide +kernel
theorem dX2_spend_39 : decode cX2_spend 39 = .ok (.return_, 1) := by decide +kernel
theorem dX2_limitWear_0 : decode cX2_limitWear 0 = .ok (.iconst 0, 1) := by decide +kernel
theorem dX2_limitWear_1 : decode cX2_limitWear 1 = .ok (.istore_n 1, 1) := by decide +kernel
theorem dX2_limitWear_2 : decode cX2_limitWear 2 = .ok (.iload_n 1, 1) := by decide +kernel
theorem dX2_limitWear_3 : decode cX2_limitWear 3 = .ok (.bipush 16, 2) := by decide +kernel
theorem dX2_limitWear_5 : decode cX2_limitWear 5 = .ok (.if_icmp .ge 27, 3) := by decide +kernel
theorem dX2_limitWear_8 : decode cX2_limitWear 8 = .ok (.aload_n 0, 1) := by decide +kernel
theorem dX2_limitWear_9 : decode cX2_limitWear 9 = .ok (.getfield 9, 3) := by decide +kernel
theorem dX2_limitWear_12 : decode cX2_limitWear 12 = .ok (.iload_n 1, 1) := by decide +kernel
theorem dX2_limitWear_13 : decode cX2_limitWear 13 = .ok (.aload_n 0, 1) := by decide +kernel
theorem dX2_limitWear_14 : decode cX2_limitWear 14 = .ok (.getfield 9, 3) := by decide +kernel
theorem dX2_limitWear_17 : decode cX2_limitWear 17 = .ok (.iload_n 1, 1) := by decide +kernel
theorem dX2_limitWear_18 : decode cX2_limitWear 18 = .ok (.iaload, 1) := by decide +kernel
theorem dX2_limitWear_19 : decode cX2_limitWear 19 = .ok (.sipush 9999, 3) := by decide +kernel
theorem dX2_limitWear_22 : decode cX2_limitWear 22 = .ok (.invokestatic 117, 3) := by decide +kernel
theorem dX2_limitWear_25 : decode cX2_limitWear 25 = .ok (.iastore, 1) := by decide +kernel
theorem dX2_limitWear_26 : decode cX2_limitWear 26 = .ok (.iinc 1 1, 3) := by decide +kernel
theorem dX2_limitWear_29 : decode cX2_limitWear 29 = .ok (.goto (-27), 3) := by decide +kernel
theorem dX2_limitWear_32 : decode cX2_limitWear 32 = .ok (.return_, 1) := by decide +kernel
theorem dX2_wearOfAll_0 : decode cX2_wearOfAll 0 = .ok (.iconst 0, 1) := by decide +kernel
theorem dX2_wearOfAll_1 : decode cX2_wearOfAll 1 = .ok (.istore_n 1, 1) := by decide +kernel
theorem dX2_wearOfAll_2 : decode cX2_wearOfAll 2 = .ok (.iconst 0, 1) := by decide +kernel
theorem dX2_wearOfAll_3 : decode cX2_wearOfAll 3 = .ok (.istore_n 2, 1) := by decide +kernel
theorem dX2_wearOfAll_4 : decode cX2_wearOfAll 4 = .ok (.iload_n 2, 1) := by decide +kernel
theorem dX2_wearOfAll_5 : decode cX2_wearOfAll 5 = .ok (.bipush 16, 2) := by decide +kernel
theorem dX2_wearOfAll_7 : decode cX2_wearOfAll 7 = .ok (.if_icmp .ge 18, 3) := by decide +kernel
theorem dX2_wearOfAll_10 : decode cX2_wearOfAll 10 = .ok (.iload_n 1, 1) := by decide +kernel
theorem dX2_wearOfAll_11 : decode cX2_wearOfAll 11 = .ok (.aload_n 0, 1) := by decide +kernel
theorem dX2_wearOfAll_12 : decode cX2_wearOfAll 12 = .ok (.getfield 9, 3) := by decide +kernel
theorem dX2_wearOfAll_15 : decode cX2_wearOfAll 15 = .ok (.iload_n 2, 1) := by decide +kernel
theorem dX2_wearOfAll_16 : decode cX2_wearOfAll 16 = .ok (.iaload, 1) := by decide +kernel
theorem dX2_wearOfAll_17 : decode cX2_wearOfAll 17 = .ok (.iadd, 1) := by decide +kernel
theorem dX2_wearOfAll_18 : decode cX2_wearOfAll 18 = .ok (.istore_n 1, 1) := by decide +kernel
theorem dX2_wearOfAll_19 : decode cX2_wearOfAll 19 = .ok (.iinc 2 1, 3) := by decide +kernel
theorem dX2_wearOfAll_22 : decode cX2_wearOfAll 22 = .ok (.goto (-18), 3) := by decide +kernel
theorem dX2_wearOfAll_25 : decode cX2_wearOfAll 25 = .ok (.iload_n 1, 1) := by decide +kernel
theorem dX2_wearOfAll_26 : decode cX2_wearOfAll 26 = .ok (.ireturn, 1) := by decide +kernel
theorem dX2_baldCells_0 : decode cX2_baldCells 0 = .ok (.iconst 0, 1) := by decide +kernel
theorem dX2_baldCells_1 : decode cX2_baldCells 1 = .ok (.istore_n 1, 1) := by decide +kernel
theorem dX2_baldCells_2 : decode cX2_baldCells 2 = .ok (.iconst 0, 1) := by decide +kernel
theorem dX2_baldCells_3 : decode cX2_baldCells 3 = .ok (.istore_n 2, 1) := by decide +kernel
theorem dX2_baldCells_4 : decode cX2_baldCells 4 = .ok (.iload_n 2, 1) := by decide +kernel
theorem dX2_baldCells_5 : decode cX2_baldCells 5 = .ok (.bipush 16, 2) := by decide +kernel
theorem dX2_baldCells_7 : decode cX2_baldCells 7 = .ok (.if_icmp .ge 28, 3) := by decide +kernel
theorem dX2_baldCells_10 : decode cX2_baldCells 10 = .ok (.aload_n 0, 1) := by decide +kernel
theorem dX2_baldCells_11 : decode cX2_baldCells 11 = .ok (.getfield 9, 3) := by decide +kernel
theorem dX2_baldCells_14 : decode cX2_baldCells 14 = .ok (.iload_n 2, 1) := by decide +kernel
theorem dX2_baldCells_15 : decode cX2_baldCells 15 = .ok (.iaload, 1) := by decide +kernel
theorem dX2_baldCells_16 : decode cX2_baldCells 16 = .ok (.aload_n 0, 1) := by decide +kernel
theorem dX2_baldCells_17 : decode cX2_baldCells 17 = .ok (.getfield 42, 3) := by decide +kernel
theorem dX2_baldCells_20 : decode cX2_baldCells 20 = .ok (.if_icmp .lt 9, 3) := by decide +kernel
theorem dX2_baldCells_23 : decode cX2_baldCells 23 = .ok (.iload_n 1, 1) := by decide +kernel
theorem dX2_baldCells_24 : decode cX2_baldCells 24 = .ok (.iconst 1, 1) := by decide +kernel
theorem dX2_baldCells_25 : decode cX2_baldCells 25 = .ok (.iload_n 2, 1) := by decide +kernel
theorem dX2_baldCells_26 : decode cX2_baldCells 26 = .ok (.ishl, 1) := by decide +kernel
theorem dX2_baldCells_27 : decode cX2_baldCells 27 = .ok (.ior, 1) := by decide +kernel
theorem dX2_baldCells_28 : decode cX2_baldCells 28 = .ok (.istore_n 1, 1) := by decide +kernel
theorem dX2_baldCells_29 : decode cX2_baldCells 29 = .ok (.iinc 2 1, 3) := by decide +kernel
theorem dX2_baldCells_32 : decode cX2_baldCells 32 = .ok (.goto (-28), 3) := by decide +kernel
theorem dX2_baldCells_35 : decode cX2_baldCells 35 = .ok (.iload_n 1, 1) := by decide +kernel
theorem dX2_baldCells_36 : decode cX2_baldCells 36 = .ok (.ireturn, 1) := by decide +kernel
theorem dX3_isCell_0 : decode cX3_isCell 0 = .ok (.iload_n 0, 1) := by decide +kernel
theorem dX3_isCell_1 : decode cX3_isCell 1 = .ok (.ifCond .lt 13, 3) := by decide +kernel
theorem dX3_isCell_4 : decode cX3_isCell 4 = .ok (.iload_n 0, 1) := by decide +kernel
theorem dX3_isCell_5 : decode cX3_isCell 5 = .ok (.bipush 16, 2) := by decide +kernel
theorem dX3_isCell_7 : decode cX3_isCell 7 = .ok (.if_icmp .ge 7, 3) := by decide +kernel
theorem dX3_isCell_10 : decode cX3_isCell 10 = .ok (.iconst 1, 1) := by decide +kernel
theorem dX3_isCell_11 : decode cX3_isCell 11 = .ok (.goto 4, 3) := by decide +kernel
theorem dX3_isCell_14 : decode cX3_isCell 14 = .ok (.iconst 0, 1) := by decide +kernel
theorem dX3_isCell_15 : decode cX3_isCell 15 = .ok (.ireturn, 1) := by decide +kernel
theorem dX3_has_0 : decode cX3_has 0 = .ok (.iload_n 0, 1) := by decide +kernel
theorem dX3_has_1 : decode cX3_has 1 = .ok (.iload_n 1, 1) := by decide +kernel
theorem dX3_has_2 : decode cX3_has 2 = .ok (.ishr, 1) := by decide +kernel
theorem dX3_has_3 : decode cX3_has 3 = .ok (.iconst 1, 1) := by decide +kernel
theorem dX3_has_4 : decode cX3_has 4 = .ok (.iand, 1) := by decide +kernel
theorem dX3_has_5 : decode cX3_has 5 = .ok (.ifCond .eq 7, 3) := by decide +kernel
theorem dX3_has_8 : decode cX3_has 8 = .ok (.iconst 1, 1) := by decide +kernel
theorem dX3_has_9 : decode cX3_has 9 = .ok (.goto 4, 3) := by decide +kernel
theorem dX3_has_12 : decode cX3_has 12 = .ok (.iconst 0, 1) := by decide +kernel
theorem dX3_has_13 : decode cX3_has 13 = .ok (.ireturn, 1) := by decide +kernel
theorem dX3_nextTo_0 : decode cX3_nextTo 0 = .ok (.iload_n 0, 1) := by decide +kernel
theorem dX3_nextTo_1 : decode cX3_nextTo 1 = .ok (.iconst 4, 1) := by decide +kernel
theorem dX3_nextTo_2 : decode cX3_nextTo 2 = .ok (.ishl, 1) := by decide +kernel
theorem dX3_nextTo_3 : decode cX3_nextTo 3 = .ok (.iload_n 0, 1) := by decide +kernel
theorem dX3_nextTo_4 : decode cX3_nextTo 4 = .ok (.iconst 4, 1) := by decide +kernel
theorem dX3_nextTo_5 : decode cX3_nextTo 5 = .ok (.ishr, 1) := by decide +kernel
theorem dX3_nextTo_6 : decode cX3_nextTo 6 = .ok (.ior, 1) := by decide +kernel
theorem dX3_nextTo_7 : decode cX3_nextTo 7 = .ok (.istore_n 1, 1) := by decide +kernel
theorem dX3_nextTo_8 : decode cX3_nextTo 8 = .ok (.iload_n 0, 1) := by decide +kernel
theorem dX3_nextTo_9 : decode cX3_nextTo 9 = .ok (.ldc 11, 2) := by decide +kernel
theorem dX3_nextTo_11 : decode cX3_nextTo 11 = .ok (.iand, 1) := by decide +kernel
theorem dX3_nextTo_12 : decode cX3_nextTo 12 = .ok (.iconst 1, 1) := by decide +kernel
theorem dX3_nextTo_13 : decode cX3_nextTo 13 = .ok (.ishl, 1) := by decide +kernel
theorem dX3_nextTo_14 : decode cX3_nextTo 14 = .ok (.iload_n 0, 1) := by decide +kernel
theorem dX3_nextTo_15 : decode cX3_nextTo 15 = .ok (.sipush (-4370), 3) := by decide +kernel
theorem dX3_nextTo_18 : decode cX3_nextTo 18 = .ok (.iand, 1) := by decide +kernel
theorem dX3_nextTo_19 : decode cX3_nextTo 19 = .ok (.iconst 1, 1) := by decide +kernel
theorem dX3_nextTo_20 : decode cX3_nextTo 20 = .ok (.ishr, 1) := by decide +kernel
theorem dX3_nextTo_21 : decode cX3_nextTo 21 = .ok (.ior, 1) := by decide +kernel
theorem dX3_nextTo_22 : decode cX3_nextTo 22 = .ok (.istore_n 2, 1) := by decide +kernel
theorem dX3_nextTo_23 : decode cX3_nextTo 23 = .ok (.iload_n 1, 1) := by decide +kernel
theorem dX3_nextTo_24 : decode cX3_nextTo 24 = .ok (.iload_n 2, 1) := by decide +kernel
theorem dX3_nextTo_25 : decode cX3_nextTo 25 = .ok (.ior, 1) := by decide +kernel
theorem dX3_nextTo_26 : decode cX3_nextTo 26 = .ok (.ldc 12, 2) := by decide +kernel
theorem dX3_nextTo_28 : decode cX3_nextTo 28 = .ok (.iand, 1) := by decide +kernel
theorem dX3_nextTo_29 : decode cX3_nextTo 29 = .ok (.ireturn, 1) := by decide +kernel
theorem dX3_first_0 : decode cX3_first 0 = .ok (.iconst 0, 1) := by decide +kernel
theorem dX3_first_1 : decode cX3_first 1 = .ok (.istore_n 1, 1) := by decide +kernel
theorem dX3_first_2 : decode cX3_first 2 = .ok (.iload_n 1, 1) := by decide +kernel
theorem dX3_first_3 : decode cX3_first 3 = .ok (.bipush 16, 2) := by decide +kernel
theorem dX3_first_5 : decode cX3_first 5 = .ok (.if_icmp .ge 19, 3) := by decide +kernel
theorem dX3_first_8 : decode cX3_first 8 = .ok (.iload_n 0, 1) := by decide +kernel
theorem dX3_first_9 : decode cX3_first 9 = .ok (.iload_n 1, 1) := by decide +kernel
theorem dX3_first_10 : decode cX3_first 10 = .ok (.ishr, 1) := by decide +kernel
theorem dX3_first_11 : decode cX3_first 11 = .ok (.iconst 1, 1) := by decide +kernel
theorem dX3_first_12 : decode cX3_first 12 = .ok (.iand, 1) := by decide +kernel
theorem dX3_first_13 : decode cX3_first 13 = .ok (.ifCond .eq 5, 3) := by decide +kernel
theorem dX3_first_16 : decode cX3_first 16 = .ok (.iload_n 1, 1) := by decide +kernel
theorem dX3_first_17 : decode cX3_first 17 = .ok (.ireturn, 1) := by decide +kernel
theorem dX3_first_18 : decode cX3_first 18 = .ok (.iinc 1 1, 3) := by decide +kernel
theorem dX3_first_21 : decode cX3_first 21 = .ok (.goto (-19), 3) := by decide +kernel
theorem dX3_first_24 : decode cX3_first 24 = .ok (.bipush (-5), 2) := by decide +kernel
theorem dX3_first_26 : decode cX3_first 26 = .ok (.ireturn, 1) := by decide +kernel
theorem dX3_howMany_0 : decode cX3_howMany 0 = .ok (.iconst 0, 1) := by decide +kernel
theorem dX3_howMany_1 : decode cX3_howMany 1 = .ok (.istore_n 1, 1) := by decide +kernel
theorem dX3_howMany_2 : decode cX3_howMany 2 = .ok (.iconst 0, 1) := by decide +kernel
theorem dX3_howMany_3 : decode cX3_howMany 3 = .ok (.istore_n 2, 1) := by decide +kernel
theorem dX3_howMany_4 : decode cX3_howMany 4 = .ok (.iload_n 2, 1) := by decide +kernel
theorem dX3_howMany_5 : decode cX3_howMany 5 = .ok (.bipush 16, 2) := by decide +kernel
theorem dX3_howMany_7 : decode cX3_howMany 7 = .ok (.if_icmp .ge 17, 3) := by decide +kernel
theorem dX3_howMany_10 : decode cX3_howMany 10 = .ok (.iload_n 1, 1) := by decide +kernel
theorem dX3_howMany_11 : decode cX3_howMany 11 = .ok (.iload_n 0, 1) := by decide +kernel
theorem dX3_howMany_12 : decode cX3_howMany 12 = .ok (.iload_n 2, 1) := by decide +kernel
theorem dX3_howMany_13 : decode cX3_howMany 13 = .ok (.ishr, 1) := by decide +kernel
theorem dX3_howMany_14 : decode cX3_howMany 14 = .ok (.iconst 1, 1) := by decide +kernel
theorem dX3_howMany_15 : decode cX3_howMany 15 = .ok (.iand, 1) := by decide +kernel
theorem dX3_howMany_16 : decode cX3_howMany 16 = .ok (.iadd, 1) := by decide +kernel
theorem dX3_howMany_17 : decode cX3_howMany 17 = .ok (.istore_n 1, 1) := by decide +kernel
theorem dX3_howMany_18 : decode cX3_howMany 18 = .ok (.iinc 2 1, 3) := by decide +kernel
theorem dX3_howMany_21 : decode cX3_howMany 21 = .ok (.goto (-17), 3) := by decide +kernel
theorem dX3_howMany_24 : decode cX3_howMany 24 = .ok (.iload_n 1, 1) := by decide +kernel
theorem dX3_howMany_25 : decode cX3_howMany 25 = .ok (.ireturn, 1) := by decide +kernel
theorem dX4_isKind_0 : decode cX4_isKind 0 = .ok (.iload_n 0, 1) := by decide +kernel
theorem dX4_isKind_1 : decode cX4_isKind 1 = .ok (.ifCond .lt 13, 3) := by decide +kernel
theorem dX4_isKind_4 : decode cX4_isKind 4 = .ok (.iload_n 0, 1) := by decide +kernel
theorem dX4_isKind_5 : decode cX4_isKind 5 = .ok (.bipush 6, 2) := by decide +kernel
theorem dX4_isKind_7 : decode cX4_isKind 7 = .ok (.if_icmp .gt 7, 3) := by decide +kernel
theorem dX4_isKind_10 : decode cX4_isKind 10 = .ok (.iconst 1, 1) := by decide +kernel
theorem dX4_isKind_11 : decode cX4_isKind 11 = .ok (.goto 4, 3) := by decide +kernel
theorem dX4_isKind_14 : decode cX4_isKind 14 = .ok (.iconst 0, 1) := by decide +kernel
theorem dX4_isKind_15 : decode cX4_isKind 15 = .ok (.ireturn, 1) := by decide +kernel
theorem dX4_above_0 : decode cX4_above 0 = .ok (.iload_n 0, 1) := by decide +kernel
theorem dX4_above_1 : decode cX4_above 1 = .ok (.invokestatic 9, 3) := by decide +kernel
theorem dX4_above_4 : decode cX4_above 4 = .ok (.ifCond .eq 11, 3) := by decide +kernel
theorem dX4_above_7 : decode cX4_above 7 = .ok (.getstatic 13, 3) := by decide +kernel
theorem dX4_above_10 : decode cX4_above 10 = .ok (.iload_n 0, 1) := by decide +kernel
theorem dX4_above_11 : decode cX4_above 11 = .ok (.iaload, 1) := by decide +kernel
theorem dX4_above_12 : decode cX4_above 12 = .ok (.goto 4, 3) := by decide +kernel
theorem dX4_above_15 : decode cX4_above 15 = .ok (.iconst (-1), 1) := by decide +kernel
theorem dX4_above_16 : decode cX4_above 16 = .ok (.ireturn, 1) := by decide +kernel
theorem dX4_isUnder_0 : decode cX4_isUnder 0 = .ok (.iload_n 0, 1) := by decide +kernel
theorem dX4_isUnder_1 : decode cX4_isUnder 1 = .ok (.istore_n 2, 1) := by decide +kernel
theorem dX4_isUnder_2 : decode cX4_isUnder 2 = .ok (.iconst 0, 1) := by decide +kernel
theorem dX4_isUnder_3 : decode cX4_isUnder 3 = .ok (.istore_n 3, 1) := by decide +kernel
theorem dX4_isUnder_4 : decode cX4_isUnder 4 = .ok (.iload_n 3, 1) := by decide +kernel
theorem dX4_isUnder_5 : decode cX4_isUnder 5 = .ok (.getstatic 13, 3) := by decide +kernel
theorem dX4_isUnder_8 : decode cX4_isUnder 8 = .ok (.arraylength, 1) := by decide +kernel
theorem dX4_isUnder_9 : decode cX4_isUnder 9 = .ok (.if_icmp .ge 34, 3) := by decide +kernel
theorem dX4_isUnder_12 : decode cX4_isUnder 12 = .ok (.iload_n 2, 1) := by decide +kernel
theorem dX4_isUnder_13 : decode cX4_isUnder 13 = .ok (.ifCond .lt 30, 3) := by decide +kernel
theorem dX4_isUnder_16 : decode cX4_isUnder 16 = .ok (.iload_n 2, 1) := by decide +kernel
theorem dX4_isUnder_17 : decode cX4_isUnder 17 = .ok (.getstatic 13, 3) := by decide +kernel
theorem dX4_isUnder_20 : decode cX4_isUnder 20 = .ok (.arraylength, 1) := by decide +kernel
theorem dX4_isUnder_21 : decode cX4_isUnder 21 = .ok (.if_icmp .ge 22, 3) := by decide +kernel
theorem dX4_isUnder_24 : decode cX4_isUnder 24 = .ok (.iload_n 2, 1) := by decide +kernel
theorem dX4_isUnder_25 : decode cX4_isUnder 25 = .ok (.iload_n 1, 1) := by decide +kernel
theorem dX4_isUnder_26 : decode cX4_isUnder 26 = .ok (.if_icmp .ne 5, 3) := by decide +kernel
theorem dX4_isUnder_29 : decode cX4_isUnder 29 = .ok (.iconst 1, 1) := by decide +kernel
theorem dX4_isUnder_30 : decode cX4_isUnder 30 = .ok (.ireturn, 1) := by decide +kernel
theorem dX4_isUnder_31 : decode cX4_isUnder 31 = .ok (.getstatic 13, 3) := by decide +kernel
theorem dX4_isUnder_34 : decode cX4_isUnder 34 = .ok (.iload_n 2, 1) := by decide +kernel
theorem dX4_isUnder_35 : decode cX4_isUnder 35 = .ok (.iaload, 1) := by decide +kernel
theorem dX4_isUnder_36 : decode cX4_isUnder 36 = .ok (.istore_n 2, 1) := by decide +kernel
theorem dX4_isUnder_37 : decode cX4_isUnder 37 = .ok (.iinc 3 1, 3) := by decide +kernel
theorem dX4_isUnder_40 : decode cX4_isUnder 40 = .ok (.goto (-36), 3) := by decide +kernel
theorem dX4_isUnder_43 : decode cX4_isUnder 43 = .ok (.iconst 0, 1) := by decide +kernel
theorem dX4_isUnder_44 : decode cX4_isUnder 44 = .ok (.ireturn, 1) := by decide +kernel
theorem dX5_init_0 : decode cX5_init 0 = .ok (.aload_n 0, 1) := by decide +kernel
theorem dX5_init_1 : decode cX5_init 1 = .ok (.invokespecial 3, 3) := by decide +kernel
theorem dX5_init_4 : decode cX5_init 4 = .ok (.aload_n 0, 1) := by decide +kernel
theorem dX5_init_5 : decode cX5_init 5 = .ok (.iconst 5, 1) := by decide +kernel
theorem dX5_init_6 : decode cX5_init 6 = .ok (.newarray .int, 2) := by decide +kernel
theorem dX5_init_8 : decode cX5_init 8 = .ok (.putfield 11, 3) := by decide +kernel
theorem dX5_init_11 : decode cX5_init 11 = .ok (.aload_n 0, 1) := by decide +kernel
theorem dX5_init_12 : decode cX5_init 12 = .ok (.iconst 5, 1) := by decide +kernel
theorem dX5_init_13 : decode cX5_init 13 = .ok (.newarray .int, 2) := by decide +kernel
theorem dX5_init_15 : decode cX5_init 15 = .ok (.putfield 15, 3) := by decide +kernel
theorem dX5_init_18 : decode cX5_init 18 = .ok (.aload_n 0, 1) := by decide +kernel
theorem dX5_init_19 : decode cX5_init 19 = .ok (.iconst 5, 1) := by decide +kernel
theorem dX5_init_20 : decode cX5_init 20 = .ok (.newarray .int, 2) := by decide +kernel
theorem dX5_init_22 : decode cX5_init 22 = .ok (.putfield 18, 3) := by decide +kernel
theorem dX5_init_25 : decode cX5_init 25 = .ok (.aload_n 0, 1) := by decide +kernel
theorem dX5_init_26 : decode cX5_init 26 = .ok (.bipush 10, 2) := by decide +kernel
theorem dX5_init_28 : decode cX5_init 28 = .ok (.newarray .int, 2) := by decide +kernel
theorem dX5_init_30 : decode cX5_init 30 = .ok (.putfield 21, 3) := by decide +kernel
theorem dX5_init_33 : decode cX5_init 33 = .ok (.aload_n 0, 1) := by decide +kernel
theorem dX5_init_34 : decode cX5_init 34 = .ok (.bipush 10, 2) := by decide +kernel
theorem dX5_init_36 : decode cX5_init 36 = .ok (.newarray .int, 2) := by decide +kernel
theorem dX5_init_38 : decode cX5_init 38 = .ok (.putfield 24, 3) := by decide +kernel
theorem dX5_init_41 : decode cX5_init 41 = .ok (.aload_n 0, 1) := by decide +kernel
theorem dX5_init_42 : decode cX5_init 42 = .ok (.bipush 8, 2) := by decide +kernel
theorem dX5_init_44 : decode cX5_init 44 = .ok (.newarray .int, 2) := by decide +kernel
theorem dX5_init_46 : decode cX5_init 46 = .ok (.putfield 27, 3) := by decide +kernel
theorem dX5_init_49 : decode cX5_init 49 = .ok (.aload_n 0, 1) := by decide +kernel
theorem dX5_init_50 : decode cX5_init 50 = .ok (.bipush 8, 2) := by decide +kernel
theorem dX5_init_52 : decode cX5_init 52 = .ok (.newarray .int, 2) := by decide +kernel
theorem dX5_init_54 : decode cX5_init 54 = .ok (.putfield 30, 3) := by decide +kernel
theorem dX5_init_57 : decode cX5_init 57 = .ok (.return_, 1) := by decide +kernel
theorem dX5_become_0 : decode cX5_become 0 = .ok (.aload_n 1, 1) := by decide +kernel
theorem dX5_become_1 : decode cX5_become 1 = .ok (.getfield 11, 3) := by decide +kernel
theorem dX5_become_4 : decode cX5_become 4 = .ok (.iconst 0, 1) := by decide +kernel
theorem dX5_become_5 : decode cX5_become 5 = .ok (.aload_n 0, 1) := by decide +kernel
theorem dX5_become_6 : decode cX5_become 6 = .ok (.getfield 11, 3) := by decide +kernel
theorem dX5_become_9 : decode cX5_become 9 = .ok (.iconst 0, 1) := by decide +kernel
theorem dX5_become_10 : decode cX5_become 10 = .ok (.iconst 5, 1) := by decide +kernel
theorem dX5_become_11 : decode cX5_become 11 = .ok (.invokestatic 33, 3) := by decide +kernel
theorem dX5_become_14 : decode cX5_become 14 = .ok (.aload_n 1, 1) := by decide +kernel
theorem dX5_become_15 : decode cX5_become 15 = .ok (.getfield 15, 3) := by decide +kernel
theorem dX5_become_18 : decode cX5_become 18 = .ok (.iconst 0, 1) := by decide +kernel
theorem dX5_become_19 : decode cX5_become 19 = .ok (.aload_n 0, 1) := by decide +kernel
theorem dX5_become_20 : decode cX5_become 20 = .ok (.getfield 15, 3) := by decide +kernel
theorem dX5_become_23 : decode cX5_become 23 = .ok (.iconst 0, 1) := by decide +kernel
theorem dX5_become_24 : decode cX5_become 24 = .ok (.iconst 5, 1) := by decide +kernel
theorem dX5_become_25 : decode cX5_become 25 = .ok (.invokestatic 33, 3) := by decide +kernel
theorem dX5_become_28 : decode cX5_become 28 = .ok (.aload_n 1, 1) := by decide +kernel
theorem dX5_become_29 : decode cX5_become 29 = .ok (.getfield 18, 3) := by decide +kernel
theorem dX5_become_32 : decode cX5_become 32 = .ok (.iconst 0, 1) := by decide +kernel
theorem dX5_become_33 : decode cX5_become 33 = .ok (.aload_n 0, 1) := by decide +kernel
theorem dX5_become_34 : decode cX5_become 34 = .ok (.getfield 18, 3) := by decide +kernel
theorem dX5_become_37 : decode cX5_become 37 = .ok (.iconst 0, 1) := by decide +kernel
theorem dX5_become_38 : decode cX5_become 38 = .ok (.iconst 5, 1) := by decide +kernel
theorem dX5_become_39 : decode cX5_become 39 = .ok (.invokestatic 33, 3) := by decide +kernel
theorem dX5_become_42 : decode cX5_become 42 = .ok (.aload_n 1, 1) := by decide +kernel
theorem dX5_become_43 : decode cX5_become 43 = .ok (.getfield 21, 3) := by decide +kernel
theorem dX5_become_46 : decode cX5_become 46 = .ok (.iconst 0, 1) := by decide +kernel
theorem dX5_become_47 : decode cX5_become 47 = .ok (.aload_n 0, 1) := by decide +kernel
theorem dX5_become_48 : decode cX5_become 48 = .ok (.getfield 21, 3) := by decide +kernel
theorem dX5_become_51 : decode cX5_become 51 = .ok (.iconst 0, 1) := by decide +kernel
theorem dX5_become_52 : decode cX5_become 52 = .ok (.bipush 10, 2) := by decide +kernel
theorem dX5_become_54 : decode cX5_become 54 = .ok (.invokestatic 33, 3) := by decide +kernel
theorem dX5_become_57 : decode cX5_become 57 = .ok (.aload_n 1, 1) := by decide +kernel
theorem dX5_become_58 : decode cX5_become 58 = .ok (.getfield 24, 3) := by decide +kernel
theorem dX5_become_61 : decode cX5_become 61 = .ok (.iconst 0, 1) := by decide +kernel
theorem dX5_become_62 : decode cX5_become 62 = .ok (.aload_n 0, 1) := by decide +kernel
theorem dX5_become_63 : decode cX5_become 63 = .ok (.getfield 24, 3) := by decide +kernel
theorem dX5_become_66 : decode cX5_become 66 = .ok (.iconst 0, 1) := by decide +kernel
theorem dX5_become_67 : decode cX5_become 67 = .ok (.bipush 10, 2) := by decide +kernel
theorem dX5_become_69 : decode cX5_become 69 = .ok (.invokestatic 33, 3) := by decide +kernel
theorem dX5_become_72 : decode cX5_become 72 = .ok (.aload_n 1, 1) := by decide +kernel
theorem dX5_become_73 : decode cX5_become 73 = .ok (.getfield 27, 3) := by decide +kernel
theorem dX5_become_76 : decode cX5_become 76 = .ok (.iconst 0, 1) := by decide +kernel
theorem dX5_become_77 : decode cX5_become 77 = .ok (.aload_n 0, 1) := by decide +kernel
theorem dX5_become_78 : decode cX5_become 78 = .ok (.getfield 27, 3) := by decide +kernel
theorem dX5_become_81 : decode cX5_become 81 = .ok (.iconst 0, 1) := by decide +kernel
theorem dX5_become_82 : decode cX5_become 82 = .ok (.bipush 8, 2) := by decide +kernel
theorem dX5_become_84 : decode cX5_become 84 = .ok (.invokestatic 33, 3) := by decide +kernel
theorem dX5_become_87 : decode cX5_become 87 = .ok (.aload_n 1, 1) := by decide +kernel
theorem dX5_become_88 : decode cX5_become 88 = .ok (.getfield 30, 3) := by decide +kernel
theorem dX5_become_91 : decode cX5_become 91 = .ok (.iconst 0, 1) := by decide +kernel
theorem dX5_become_92 : decode cX5_become 92 = .ok (.aload_n 0, 1) := by decide +kernel
theorem dX5_become_93 : decode cX5_become 93 = .ok (.getfield 30, 3) := by decide +kernel
theorem dX5_become_96 : decode cX5_become 96 = .ok (.iconst 0, 1) := by decide +kernel
theorem dX5_become_97 : decode cX5_become 97 = .ok (.bipush 8, 2) := by decide +kernel
theorem dX5_become_99 : decode cX5_become 99 = .ok (.invokestatic 33, 3) := by decide +kernel
theorem dX5_become_102 : decode cX5_become 102 = .ok (.aload_n 0, 1) := by decide +kernel
theorem dX5_become_103 : decode cX5_become 103 = .ok (.aload_n 1, 1) := by decide +kernel
theorem dX5_become_104 : decode cX5_become 104 = .ok (.getfield 39, 3) := by decide +kernel
theorem dX5_become_107 : decode cX5_become 107 = .ok (.putfield 39, 3) := by decide +kernel
theorem dX5_become_110 : decode cX5_become 110 = .ok (.aload_n 0, 1) := by decide +kernel
theorem dX5_become_111 : decode cX5_become 111 = .ok (.aload_n 1, 1) := by decide +kernel
theorem dX5_become_112 : decode cX5_become 112 = .ok (.getfield 43, 3) := by decide +kernel
theorem dX5_become_115 : decode cX5_become 115 = .ok (.putfield 43, 3) := by decide +kernel
theorem dX5_become_118 : decode cX5_become 118 = .ok (.aload_n 0, 1) := by decide +kernel
theorem dX5_become_119 : decode cX5_become 119 = .ok (.aload_n 1, 1) := by decide +kernel
theorem dX5_become_120 : decode cX5_become 120 = .ok (.getfield 46, 3) := by decide +kernel
theorem dX5_become_123 : decode cX5_become 123 = .ok (.putfield 46, 3) := by decide +kernel
theorem dX5_become_126 : decode cX5_become 126 = .ok (.return_, 1) := by decide +kernel
theorem dX5_forgetSeen_0 : decode cX5_forgetSeen 0 = .ok (.aload_n 0, 1) := by decide +kernel
theorem dX5_forgetSeen_1 : decode cX5_forgetSeen 1 = .ok (.iconst 0, 1) := by decide +kernel
theorem dX5_forgetSeen_2 : decode cX5_forgetSeen 2 = .ok (.putfield 39, 3) := by decide +kernel
theorem dX5_forgetSeen_5 : decode cX5_forgetSeen 5 = .ok (.aload_n 0, 1) := by decide +kernel
theorem dX5_forgetSeen_6 : decode cX5_forgetSeen 6 = .ok (.getfield 39, 3) := by decide +kernel
theorem dX5_forgetSeen_9 : decode cX5_forgetSeen 9 = .ok (.ireturn, 1) := by decide +kernel
theorem dX5_addSeen_0 : decode cX5_addSeen 0 = .ok (.aload_n 0, 1) := by decide +kernel
theorem dX5_addSeen_1 : decode cX5_addSeen 1 = .ok (.getfield 39, 3) := by decide +kernel
theorem dX5_addSeen_4 : decode cX5_addSeen 4 = .ok (.iconst 5, 1) := by decide +kernel
theorem dX5_addSeen_5 : decode cX5_addSeen 5 = .ok (.if_icmp .lt 5, 3) := by decide +kernel
theorem dX5_addSeen_8 : decode cX5_addSeen 8 = .ok (.iconst 0, 1) := by decide +kernel
theorem dX5_addSeen_9 : decode cX5_addSeen 9 = .ok (.ireturn, 1) := by decide +kernel
theorem dX5_addSeen_10 : decode cX5_addSeen 10 = .ok (.aload_n 0, 1) := by decide +kernel
theorem dX5_addSeen_11 : decode cX5_addSeen 11 = .ok (.getfield 11, 3) := by decide +kernel
theorem dX5_addSeen_14 : decode cX5_addSeen 14 = .ok (.aload_n 0, 1) := by decide +kernel
theorem dX5_addSeen_15 : decode cX5_addSeen 15 = .ok (.getfield 39, 3) := by decide +kernel
theorem dX5_addSeen_18 : decode cX5_addSeen 18 = .ok (.iload_n 1, 1) := by decide +kernel
theorem dX5_addSeen_19 : decode cX5_addSeen 19 = .ok (.iastore, 1) := by decide +kernel
theorem dX5_addSeen_20 : decode cX5_addSeen 20 = .ok (.aload_n 0, 1) := by decide +kernel
theorem dX5_addSeen_21 : decode cX5_addSeen 21 = .ok (.getfield 15, 3) := by decide +kernel
theorem dX5_addSeen_24 : decode cX5_addSeen 24 = .ok (.aload_n 0, 1) := by decide +kernel
theorem dX5_addSeen_25 : decode cX5_addSeen 25 = .ok (.getfield 39, 3) := by decide +kernel
theorem dX5_addSeen_28 : decode cX5_addSeen 28 = .ok (.iload_n 2, 1) := by decide +kernel
theorem dX5_addSeen_29 : decode cX5_addSeen 29 = .ok (.iastore, 1) := by decide +kernel
theorem dX5_addSeen_30 : decode cX5_addSeen 30 = .ok (.aload_n 0, 1) := by decide +kernel
theorem dX5_addSeen_31 : decode cX5_addSeen 31 = .ok (.getfield 18, 3) := by decide +kernel
theorem dX5_addSeen_34 : decode cX5_addSeen 34 = .ok (.aload_n 0, 1) := by decide +kernel
theorem dX5_addSeen_35 : decode cX5_addSeen 35 = .ok (.getfield 39, 3) := by decide +kernel
theorem dX5_addSeen_38 : decode cX5_addSeen 38 = .ok (.iload_n 3, 1) := by decide +kernel
theorem dX5_addSeen_39 : decode cX5_addSeen 39 = .ok (.iastore, 1) := by decide +kernel
theorem dX5_addSeen_40 : decode cX5_addSeen 40 = .ok (.aload_n 0, 1) := by decide +kernel
theorem dX5_addSeen_41 : decode cX5_addSeen 41 = .ok (.dup, 1) := by decide +kernel
theorem dX5_addSeen_42 : decode cX5_addSeen 42 = .ok (.getfield 39, 3) := by decide +kernel
theorem dX5_addSeen_45 : decode cX5_addSeen 45 = .ok (.iconst 1, 1) := by decide +kernel
theorem dX5_addSeen_46 : decode cX5_addSeen 46 = .ok (.iadd, 1) := by decide +kernel
theorem dX5_addSeen_47 : decode cX5_addSeen 47 = .ok (.putfield 39, 3) := by decide +kernel
theorem dX5_addSeen_50 : decode cX5_addSeen 50 = .ok (.iconst 1, 1) := by decide +kernel
theorem dX5_addSeen_51 : decode cX5_addSeen 51 = .ok (.ireturn, 1) := by decide +kernel
theorem dX5_isAllSeenSo_0 : decode cX5_isAllSeenSo 0 = .ok (.iconst 0, 1) := by decide +kernel
theorem dX5_isAllSeenSo_1 : decode cX5_isAllSeenSo 1 = .ok (.istore_n 2, 1) := by decide +kernel
theorem dX5_isAllSeenSo_2 : decode cX5_isAllSeenSo 2 = .ok (.iload_n 2, 1) := by decide +kernel
theorem dX5_isAllSeenSo_3 : decode cX5_isAllSeenSo 3 = .ok (.aload_n 0, 1) := by decide +kernel
theorem dX5_isAllSeenSo_4 : decode cX5_isAllSeenSo 4 = .ok (.getfield 39, 3) := by decide +kernel
theorem dX5_isAllSeenSo_7 : decode cX5_isAllSeenSo 7 = .ok (.if_icmp .ge 41, 3) := by decide +kernel
theorem dX5_isAllSeenSo_10 : decode cX5_isAllSeenSo 10 = .ok (.iload_n 2, 1) := by decide +kernel
theorem dX5_isAllSeenSo_11 : decode cX5_isAllSeenSo 11 = .ok (.iconst 5, 1) := by decide +kernel
theorem dX5_isAllSeenSo_12 : decode cX5_isAllSeenSo 12 = .ok (.if_icmp .ge 36, 3) := by decide +kernel
theorem dX5_isAllSeenSo_15 : decode cX5_isAllSeenSo 15 = .ok (.aload_n 1, 1) := by decide +kernel
theorem dX5_isAllSeenSo_16 : decode cX5_isAllSeenSo 16 = .ok (.aload_n 0, 1) := by decide +kernel
theorem dX5_isAllSeenSo_17 : decode cX5_isAllSeenSo 17 = .ok (.getfield 11, 3) := by decide +kernel
theorem dX5_isAllSeenSo_20 : decode cX5_isAllSeenSo 20 = .ok (.iload_n 2, 1) := by decide +kernel
theorem dX5_isAllSeenSo_21 : decode cX5_isAllSeenSo 21 = .ok (.iaload, 1) := by decide +kernel
theorem dX5_isAllSeenSo_22 : decode cX5_isAllSeenSo 22 = .ok (.aload_n 0, 1) := by decide +kernel
theorem dX5_isAllSeenSo_23 : decode cX5_isAllSeenSo 23 = .ok (.getfield 18, 3) := by decide +kernel
theorem dX5_isAllSeenSo_26 : decode cX5_isAllSeenSo 26 = .ok (.iload_n 2, 1) := by decide +kernel
theorem dX5_isAllSeenSo_27 : decode cX5_isAllSeenSo 27 = .ok (.iaload, 1) := by decide +kernel
theorem dX5_isAllSeenSo_28 : decode cX5_isAllSeenSo 28 = .ok (.invokevirtual 49, 3) := by decide +kernel
theorem dX5_isAllSeenSo_31 : decode cX5_isAllSeenSo 31 = .ok (.aload_n 0, 1) := by decide +kernel
theorem dX5_isAllSeenSo_32 : decode cX5_isAllSeenSo 32 = .ok (.getfield 15, 3) := by decide +kernel
theorem dX5_isAllSeenSo_35 : decode cX5_isAllSeenSo 35 = .ok (.iload_n 2, 1) := by decide +kernel
theorem dX5_isAllSeenSo_36 : decode cX5_isAllSeenSo 36 = .ok (.iaload, 1) := by decide +kernel
theorem dX5_isAllSeenSo_37 : decode cX5_isAllSeenSo 37 = .ok (.if_icmp .eq 5, 3) := by decide +kernel
theorem dX5_isAllSeenSo_40 : decode cX5_isAllSeenSo 40 = .ok (.iconst 0, 1) := by decide +kernel
theorem dX5_isAllSeenSo_41 : decode cX5_isAllSeenSo 41 = .ok (.ireturn, 1) := by decide +kernel
theorem dX5_isAllSeenSo_42 : decode cX5_isAllSeenSo 42 = .ok (.iinc 2 1, 3) := by decide +kernel
theorem dX5_isAllSeenSo_45 : decode cX5_isAllSeenSo 45 = .ok (.goto (-43), 3) := by decide +kernel
theorem dX5_isAllSeenSo_48 : decode cX5_isAllSeenSo 48 = .ok (.iconst 1, 1) := by decide +kernel
theorem dX5_isAllSeenSo_49 : decode cX5_isAllSeenSo 49 = .ok (.ireturn, 1) := by decide +kernel
theorem dX5_forgetPlan_0 : decode cX5_forgetPlan 0 = .ok (.aload_n 0, 1) := by decide +kernel
theorem dX5_forgetPlan_1 : decode cX5_forgetPlan 1 = .ok (.iconst 0, 1) := by decide +kernel
theorem dX5_forgetPlan_2 : decode cX5_forgetPlan 2 = .ok (.putfield 43, 3) := by decide +kernel
theorem dX5_forgetPlan_5 : decode cX5_forgetPlan 5 = .ok (.aload_n 0, 1) := by decide +kernel
theorem dX5_forgetPlan_6 : decode cX5_forgetPlan 6 = .ok (.getfield 43, 3) := by decide +kernel
theorem dX5_forgetPlan_9 : decode cX5_forgetPlan 9 = .ok (.ireturn, 1) := by decide +kernel
theorem dX5_addToPlan_0 : decode cX5_addToPlan 0 = .ok (.aload_n 0, 1) := by decide +kernel
theorem dX5_addToPlan_1 : decode cX5_addToPlan 1 = .ok (.getfield 43, 3) := by decide +kernel
theorem dX5_addToPlan_4 : decode cX5_addToPlan 4 = .ok (.bipush 10, 2) := by decide +kernel
theorem dX5_addToPlan_6 : decode cX5_addToPlan 6 = .ok (.if_icmp .lt 5, 3) := by decide +kernel
theorem dX5_addToPlan_9 : decode cX5_addToPlan 9 = .ok (.iconst 0, 1) := by decide +kernel
theorem dX5_addToPlan_10 : decode cX5_addToPlan 10 = .ok (.ireturn, 1) := by decide +kernel
theorem dX5_addToPlan_11 : decode cX5_addToPlan 11 = .ok (.aload_n 0, 1) := by decide +kernel
theorem dX5_addToPlan_12 : decode cX5_addToPlan 12 = .ok (.getfield 21, 3) := by decide +kernel
theorem dX5_addToPlan_15 : decode cX5_addToPlan 15 = .ok (.aload_n 0, 1) := by decide +kernel
theorem dX5_addToPlan_16 : decode cX5_addToPlan 16 = .ok (.getfield 43, 3) := by decide +kernel
theorem dX5_addToPlan_19 : decode cX5_addToPlan 19 = .ok (.iload_n 1, 1) := by decide +kernel
theorem dX5_addToPlan_20 : decode cX5_addToPlan 20 = .ok (.iastore, 1) := by decide +kernel
theorem dX5_addToPlan_21 : decode cX5_addToPlan 21 = .ok (.aload_n 0, 1) := by decide +kernel
theorem dX5_addToPlan_22 : decode cX5_addToPlan 22 = .ok (.getfield 24, 3) := by decide +kernel
theorem dX5_addToPlan_25 : decode cX5_addToPlan 25 = .ok (.aload_n 0, 1) := by decide +kernel
theorem dX5_addToPlan_26 : decode cX5_addToPlan 26 = .ok (.getfield 43, 3) := by decide +kernel
theorem dX5_addToPlan_29 : decode cX5_addToPlan 29 = .ok (.iload_n 2, 1) := by decide +kernel
theorem dX5_addToPlan_30 : decode cX5_addToPlan 30 = .ok (.iastore, 1) := by decide +kernel
theorem dX5_addToPlan_31 : decode cX5_addToPlan 31 = .ok (.aload_n 0, 1) := by decide +kernel
theorem dX5_addToPlan_32 : decode cX5_addToPlan 32 = .ok (.dup, 1) := by decide +kernel
theorem dX5_addToPlan_33 : decode cX5_addToPlan 33 = .ok (.getfield 43, 3) := by decide +kernel
theorem dX5_addToPlan_36 : decode cX5_addToPlan 36 = .ok (.iconst 1, 1) := by decide +kernel
theorem dX5_addToPlan_37 : decode cX5_addToPlan 37 = .ok (.iadd, 1) := by decide +kernel
theorem dX5_addToPlan_38 : decode cX5_addToPlan 38 = .ok (.putfield 43, 3) := by decide +kernel
theorem dX5_addToPlan_41 : decode cX5_addToPlan 41 = .ok (.iconst 1, 1) := by decide +kernel
theorem dX5_addToPlan_42 : decode cX5_addToPlan 42 = .ok (.ireturn, 1) := by decide +kernel
theorem dX5_forgetBook_0 : decode cX5_forgetBook 0 = .ok (.aload_n 0, 1) := by decide +kernel
theorem dX5_forgetBook_1 : decode cX5_forgetBook 1 = .ok (.iconst 0, 1) := by decide +kernel
theorem dX5_forgetBook_2 : decode cX5_forgetBook 2 = .ok (.putfield 46, 3) := by decide +kernel
theorem dX5_forgetBook_5 : decode cX5_forgetBook 5 = .ok (.aload_n 0, 1) := by decide +kernel
theorem dX5_forgetBook_6 : decode cX5_forgetBook 6 = .ok (.getfield 46, 3) := by decide +kernel
theorem dX5_forgetBook_9 : decode cX5_forgetBook 9 = .ok (.ireturn, 1) := by decide +kernel
theorem dX5_addToBook_0 : decode cX5_addToBook 0 = .ok (.aload_n 0, 1) := by decide +kernel
theorem dX5_addToBook_1 : decode cX5_addToBook 1 = .ok (.getfield 46, 3) := by decide +kernel
theorem dX5_addToBook_4 : decode cX5_addToBook 4 = .ok (.bipush 8, 2) := by decide +kernel
theorem dX5_addToBook_6 : decode cX5_addToBook 6 = .ok (.if_icmp .lt 5, 3) := by decide +kernel
theorem dX5_addToBook_9 : decode cX5_addToBook 9 = .ok (.iconst 0, 1) := by decide +kernel
theorem dX5_addToBook_10 : decode cX5_addToBook 10 = .ok (.ireturn, 1) := by decide +kernel
theorem dX5_addToBook_11 : decode cX5_addToBook 11 = .ok (.aload_n 0, 1) := by decide +kernel
theorem dX5_addToBook_12 : decode cX5_addToBook 12 = .ok (.getfield 27, 3) := by decide +kernel
theorem dX5_addToBook_15 : decode cX5_addToBook 15 = .ok (.aload_n 0, 1) := by decide +kernel
theorem dX5_addToBook_16 : decode cX5_addToBook 16 = .ok (.getfield 46, 3) := by decide +kernel
theorem dX5_addToBook_19 : decode cX5_addToBook 19 = .ok (.iload_n 1, 1) := by decide +kernel
theorem dX5_addToBook_20 : decode cX5_addToBook 20 = .ok (.iastore, 1) := by decide +kernel
theorem dX5_addToBook_21 : decode cX5_addToBook 21 = .ok (.aload_n 0, 1) := by decide +kernel
theorem dX5_addToBook_22 : decode cX5_addToBook 22 = .ok (.getfield 30, 3) := by decide +kernel
theorem dX5_addToBook_25 : decode cX5_addToBook 25 = .ok (.aload_n 0, 1) := by decide +kernel
theorem dX5_addToBook_26 : decode cX5_addToBook 26 = .ok (.getfield 46, 3) := by decide +kernel
theorem dX5_addToBook_29 : decode cX5_addToBook 29 = .ok (.iload_n 2, 1) := by decide +kernel
theorem dX5_addToBook_30 : decode cX5_addToBook 30 = .ok (.iastore, 1) := by decide +kernel
theorem dX5_addToBook_31 : decode cX5_addToBook 31 = .ok (.aload_n 0, 1) := by decide +kernel
theorem dX5_addToBook_32 : decode cX5_addToBook 32 = .ok (.dup, 1) := by decide +kernel
theorem dX5_addToBook_33 : decode cX5_addToBook 33 = .ok (.getfield 46, 3) := by decide +kernel
theorem dX5_addToBook_36 : decode cX5_addToBook 36 = .ok (.iconst 1, 1) := by decide +kernel
theorem dX5_addToBook_37 : decode cX5_addToBook 37 = .ok (.iadd, 1) := by decide +kernel
theorem dX5_addToBook_38 : decode cX5_addToBook 38 = .ok (.putfield 46, 3) := by decide +kernel
theorem dX5_addToBook_41 : decode cX5_addToBook 41 = .ok (.iconst 1, 1) := by decide +kernel
theorem dX5_addToBook_42 : decode cX5_addToBook 42 = .ok (.ireturn, 1) := by decide +kernel
theorem dX5_firstOtherwise_0 : decode cX5_firstOtherwise 0 = .ok (.iconst 0, 1) := by decide +kernel
theorem dX5_firstOtherwise_1 : decode cX5_firstOtherwise 1 = .ok (.istore_n 2, 1) := by decide +kernel
theorem dX5_firstOtherwise_2 : decode cX5_firstOtherwise 2 = .ok (.iload_n 2, 1) := by decide +kernel
theorem dX5_firstOtherwise_3 : decode cX5_firstOtherwise 3 = .ok (.aload_n 0, 1) := by decide +kernel
theorem dX5_firstOtherwise_4 : decode cX5_firstOtherwise 4 = .ok (.getfield 46, 3) := by decide +kernel
theorem dX5_firstOtherwise_7 : decode cX5_firstOtherwise 7 = .ok (.if_icmp .ge 37, 3) := by decide +kernel
theorem dX5_firstOtherwise_10 : decode cX5_firstOtherwise 10 = .ok (.iload_n 2, 1) := by decide +kernel
theorem dX5_firstOtherwise_11 : decode cX5_firstOtherwise 11 = .ok (.bipush 8, 2) := by decide +kernel
theorem dX5_firstOtherwise_13 : decode cX5_firstOtherwise 13 = .ok (.if_icmp .ge 31, 3) := by decide +kernel
theorem dX5_firstOtherwise_16 : decode cX5_firstOtherwise 16 = .ok (.aload_n 1, 1) := by decide +kernel
theorem dX5_firstOtherwise_17 : decode cX5_firstOtherwise 17 = .ok (.getfield 55, 3) := by decide +kernel
theorem dX5_firstOtherwise_20 : decode cX5_firstOtherwise 20 = .ok (.aload_n 0, 1) := by decide +kernel
theorem dX5_firstOtherwise_21 : decode cX5_firstOtherwise 21 = .ok (.getfield 27, 3) := by decide +kernel
theorem dX5_firstOtherwise_24 : decode cX5_firstOtherwise 24 = .ok (.iload_n 2, 1) := by decide +kernel
theorem dX5_firstOtherwise_25 : decode cX5_firstOtherwise 25 = .ok (.iaload, 1) := by decide +kernel
theorem dX5_firstOtherwise_26 : decode cX5_firstOtherwise 26 = .ok (.iaload, 1) := by decide +kernel
theorem dX5_firstOtherwise_27 : decode cX5_firstOtherwise 27 = .ok (.aload_n 0, 1) := by decide +kernel
theorem dX5_firstOtherwise_28 : decode cX5_firstOtherwise 28 = .ok (.getfield 30, 3) := by decide +kernel
theorem dX5_firstOtherwise_31 : decode cX5_firstOtherwise 31 = .ok (.iload_n 2, 1) := by decide +kernel
theorem dX5_firstOtherwise_32 : decode cX5_firstOtherwise 32 = .ok (.iaload, 1) := by decide +kernel
theorem dX5_firstOtherwise_33 : decode cX5_firstOtherwise 33 = .ok (.if_icmp .eq 5, 3) := by decide +kernel
theorem dX5_firstOtherwise_36 : decode cX5_firstOtherwise 36 = .ok (.iload_n 2, 1) := by decide +kernel
theorem dX5_firstOtherwise_37 : decode cX5_firstOtherwise 37 = .ok (.ireturn, 1) := by decide +kernel
theorem dX5_firstOtherwise_38 : decode cX5_firstOtherwise 38 = .ok (.iinc 2 1, 3) := by decide +kernel
theorem dX5_firstOtherwise_41 : decode cX5_firstOtherwise 41 = .ok (.goto (-39), 3) := by decide +kernel
theorem dX5_firstOtherwise_44 : decode cX5_firstOtherwise 44 = .ok (.bipush (-5), 2) := by decide +kernel
theorem dX5_firstOtherwise_46 : decode cX5_firstOtherwise 46 = .ok (.ireturn, 1) := by decide +kernel
theorem dX6_init_0 : decode cX6_init 0 = .ok (.aload_n 0, 1) := by decide +kernel
theorem dX6_init_1 : decode cX6_init 1 = .ok (.invokespecial 3, 3) := by decide +kernel
theorem dX6_init_4 : decode cX6_init 4 = .ok (.aload_n 0, 1) := by decide +kernel
theorem dX6_init_5 : decode cX6_init 5 = .ok (.sipush 700, 3) := by decide +kernel
theorem dX6_init_8 : decode cX6_init 8 = .ok (.newarray .byte, 2) := by decide +kernel
theorem dX6_init_10 : decode cX6_init 10 = .ok (.putfield 11, 3) := by decide +kernel
theorem dX6_init_13 : decode cX6_init 13 = .ok (.aload_n 0, 1) := by decide +kernel
theorem dX6_init_14 : decode cX6_init 14 = .ok (.bipush 7, 2) := by decide +kernel
theorem dX6_init_16 : decode cX6_init 16 = .ok (.newarray .int, 2) := by decide +kernel
theorem dX6_init_18 : decode cX6_init 18 = .ok (.putfield 15, 3) := by decide +kernel
theorem dX6_init_21 : decode cX6_init 21 = .ok (.aload_n 0, 1) := by decide +kernel
theorem dX6_init_22 : decode cX6_init 22 = .ok (.bipush 16, 2) := by decide +kernel
theorem dX6_init_24 : decode cX6_init 24 = .ok (.newarray .int, 2) := by decide +kernel
theorem dX6_init_26 : decode cX6_init 26 = .ok (.putfield 19, 3) := by decide +kernel
theorem dX6_init_29 : decode cX6_init 29 = .ok (.return_, 1) := by decide +kernel
theorem dX6_howMany_0 : decode cX6_howMany 0 = .ok (.aload_n 0, 1) := by decide +kernel
theorem dX6_howMany_1 : decode cX6_howMany 1 = .ok (.getfield 22, 3) := by decide +kernel
theorem dX6_howMany_4 : decode cX6_howMany 4 = .ok (.ireturn, 1) := by decide +kernel
theorem dX6_textLength_0 : decode cX6_textLength 0 = .ok (.aload_n 0, 1) := by decide +kernel
theorem dX6_textLength_1 : decode cX6_textLength 1 = .ok (.getfield 15, 3) := by decide +kernel
theorem dX6_textLength_4 : decode cX6_textLength 4 = .ok (.aload_n 0, 1) := by decide +kernel
theorem dX6_textLength_5 : decode cX6_textLength 5 = .ok (.getfield 22, 3) := by decide +kernel
theorem dX6_textLength_8 : decode cX6_textLength 8 = .ok (.iaload, 1) := by decide +kernel
theorem dX6_textLength_9 : decode cX6_textLength 9 = .ok (.ireturn, 1) := by decide +kernel
theorem dX6_addSign_0 : decode cX6_addSign 0 = .ok (.aload_n 0, 1) := by decide +kernel
theorem dX6_addSign_1 : decode cX6_addSign 1 = .ok (.getfield 15, 3) := by decide +kernel
theorem dX6_addSign_4 : decode cX6_addSign 4 = .ok (.aload_n 0, 1) := by decide +kernel
theorem dX6_addSign_5 : decode cX6_addSign 5 = .ok (.getfield 22, 3) := by decide +kernel
theorem dX6_addSign_8 : decode cX6_addSign 8 = .ok (.iaload, 1) := by decide +kernel
theorem dX6_addSign_9 : decode cX6_addSign 9 = .ok (.istore_n 2, 1) := by decide +kernel
theorem dX6_addSign_10 : decode cX6_addSign 10 = .ok (.iload_n 2, 1) := by decide +kernel
theorem dX6_addSign_11 : decode cX6_addSign 11 = .ok (.bipush 100, 2) := by decide +kernel
theorem dX6_addSign_13 : decode cX6_addSign 13 = .ok (.if_icmp .lt 5, 3) := by decide +kernel
theorem dX6_addSign_16 : decode cX6_addSign 16 = .ok (.iconst 0, 1) := by decide +kernel
theorem dX6_addSign_17 : decode cX6_addSign 17 = .ok (.ireturn, 1) := by decide +kernel
theorem dX6_addSign_18 : decode cX6_addSign 18 = .ok (.aload_n 0, 1) := by decide +kernel
theorem dX6_addSign_19 : decode cX6_addSign 19 = .ok (.getfield 11, 3) := by decide +kernel
theorem dX6_addSign_22 : decode cX6_addSign 22 = .ok (.aload_n 0, 1) := by decide +kernel
theorem dX6_addSign_23 : decode cX6_addSign 23 = .ok (.getfield 22, 3) := by decide +kernel
theorem dX6_addSign_26 : decode cX6_addSign 26 = .ok (.bipush 100, 2) := by decide +kernel
theorem dX6_addSign_28 : decode cX6_addSign 28 = .ok (.imul, 1) := by decide +kernel
theorem dX6_addSign_29 : decode cX6_addSign 29 = .ok (.iload_n 2, 1) := by decide +kernel
theorem dX6_addSign_30 : decode cX6_addSign 30 = .ok (.iadd, 1) := by decide +kernel
theorem dX6_addSign_31 : decode cX6_addSign 31 = .ok (.iload_n 1, 1) := by decide +kernel
theorem dX6_addSign_32 : decode cX6_addSign 32 = .ok (.bastore, 1) := by decide +kernel
theorem dX6_addSign_33 : decode cX6_addSign 33 = .ok (.aload_n 0, 1) := by decide +kernel
theorem dX6_addSign_34 : decode cX6_addSign 34 = .ok (.getfield 15, 3) := by decide +kernel
theorem dX6_addSign_37 : decode cX6_addSign 37 = .ok (.aload_n 0, 1) := by decide +kernel
theorem dX6_addSign_38 : decode cX6_addSign 38 = .ok (.getfield 22, 3) := by decide +kernel
theorem dX6_addSign_41 : decode cX6_addSign 41 = .ok (.iload_n 2, 1) := by decide +kernel
theorem dX6_addSign_42 : decode cX6_addSign 42 = .ok (.iconst 1, 1) := by decide +kernel
theorem dX6_addSign_43 : decode cX6_addSign 43 = .ok (.iadd, 1) := by decide +kernel
theorem dX6_addSign_44 : decode cX6_addSign 44 = .ok (.iastore, 1) := by decide +kernel
theorem dX6_addSign_45 : decode cX6_addSign 45 = .ok (.iconst 1, 1) := by decide +kernel
theorem dX6_addSign_46 : decode cX6_addSign 46 = .ok (.ireturn, 1) := by decide +kernel
theorem dX6_closeText_0 : decode cX6_closeText 0 = .ok (.aload_n 0, 1) := by decide +kernel
theorem dX6_closeText_1 : decode cX6_closeText 1 = .ok (.getfield 22, 3) := by decide +kernel
theorem dX6_closeText_4 : decode cX6_closeText 4 = .ok (.bipush 6, 2) := by decide +kernel
theorem dX6_closeText_6 : decode cX6_closeText 6 = .ok (.if_icmp .lt 6, 3) := by decide +kernel
theorem dX6_closeText_9 : decode cX6_closeText 9 = .ok (.bipush (-4), 2) := by decide +kernel
theorem dX6_closeText_11 : decode cX6_closeText 11 = .ok (.ireturn, 1) := by decide +kernel
theorem dX6_closeText_12 : decode cX6_closeText 12 = .ok (.aload_n 0, 1) := by decide +kernel
theorem dX6_closeText_13 : decode cX6_closeText 13 = .ok (.aload_n 0, 1) := by decide +kernel
theorem dX6_closeText_14 : decode cX6_closeText 14 = .ok (.getfield 22, 3) := by decide +kernel
theorem dX6_closeText_17 : decode cX6_closeText 17 = .ok (.iconst 0, 1) := by decide +kernel
theorem dX6_closeText_18 : decode cX6_closeText 18 = .ok (.iconst 0, 1) := by decide +kernel
theorem dX6_closeText_19 : decode cX6_closeText 19 = .ok (.iconst 0, 1) := by decide +kernel
theorem dX6_closeText_20 : decode cX6_closeText 20 = .ok (.invokevirtual 26, 3) := by decide +kernel
theorem dX6_closeText_23 : decode cX6_closeText 23 = .ok (.aload_n 0, 1) := by decide +kernel
theorem dX6_closeText_24 : decode cX6_closeText 24 = .ok (.getfield 30, 3) := by decide +kernel
theorem dX6_closeText_27 : decode cX6_closeText 27 = .ok (.ifCond .eq 21, 3) := by decide +kernel
theorem dX6_closeText_30 : decode cX6_closeText 30 = .ok (.aload_n 0, 1) := by decide +kernel
theorem dX6_closeText_31 : decode cX6_closeText 31 = .ok (.getfield 15, 3) := by decide +kernel
theorem dX6_closeText_34 : decode cX6_closeText 34 = .ok (.aload_n 0, 1) := by decide +kernel
theorem dX6_closeText_35 : decode cX6_closeText 35 = .ok (.getfield 22, 3) := by decide +kernel
theorem dX6_closeText_38 : decode cX6_closeText 38 = .ok (.iconst 0, 1) := by decide +kernel
theorem dX6_closeText_39 : decode cX6_closeText 39 = .ok (.iastore, 1) := by decide +kernel
theorem dX6_closeText_40 : decode cX6_closeText 40 = .ok (.bipush (-10), 2) := by decide +kernel
theorem dX6_closeText_42 : decode cX6_closeText 42 = .ok (.aload_n 0, 1) := by decide +kernel
theorem dX6_closeText_43 : decode cX6_closeText 43 = .ok (.getfield 34, 3) := by decide +kernel
theorem dX6_closeText_46 : decode cX6_closeText 46 = .ok (.isub, 1) := by decide +kernel
theorem dX6_closeText_47 : decode cX6_closeText 47 = .ok (.ireturn, 1) := by decide +kernel
theorem dX6_closeText_48 : decode cX6_closeText 48 = .ok (.aload_n 0, 1) := by decide +kernel
theorem dX6_closeText_49 : decode cX6_closeText 49 = .ok (.dup, 1) := by decide +kernel
theorem dX6_closeText_50 : decode cX6_closeText 50 = .ok (.getfield 22, 3) := by decide +kernel
theorem dX6_closeText_53 : decode cX6_closeText 53 = .ok (.iconst 1, 1) := by decide +kernel
theorem dX6_closeText_54 : decode cX6_closeText 54 = .ok (.iadd, 1) := by decide +kernel
theorem dX6_closeText_55 : decode cX6_closeText 55 = .ok (.putfield 22, 3) := by decide +kernel
theorem dX6_closeText_58 : decode cX6_closeText 58 = .ok (.aload_n 0, 1) := by decide +kernel
theorem dX6_closeText_59 : decode cX6_closeText 59 = .ok (.getfield 22, 3) := by decide +kernel
theorem dX6_closeText_62 : decode cX6_closeText 62 = .ok (.iconst 1, 1) := by decide +kernel
theorem dX6_closeText_63 : decode cX6_closeText 63 = .ok (.isub, 1) := by decide +kernel
theorem dX6_closeText_64 : decode cX6_closeText 64 = .ok (.ireturn, 1) := by decide +kernel
theorem dX6_baldAt_0 : decode cX6_baldAt 0 = .ok (.aload_n 0, 1) := by decide +kernel
theorem dX6_baldAt_1 : decode cX6_baldAt 1 = .ok (.getfield 37, 3) := by decide +kernel
theorem dX6_baldAt_4 : decode cX6_baldAt 4 = .ok (.ireturn, 1) := by decide +kernel
theorem dX6_copyYields_0 : decode cX6_copyYields 0 = .ok (.iconst 0, 1) := by decide +kernel
theorem dX6_copyYields_1 : decode cX6_copyYields 1 = .ok (.istore_n 3, 1) := by decide +kernel
theorem dX6_copyYields_2 : decode cX6_copyYields 2 = .ok (.iload_n 3, 1) := by decide +kernel
theorem dX6_copyYields_3 : decode cX6_copyYields 3 = .ok (.bipush 16, 2) := by decide +kernel
theorem dX6_copyYields_5 : decode cX6_copyYields 5 = .ok (.if_icmp .ge 27, 3) := by decide +kernel
theorem dX6_copyYields_8 : decode cX6_copyYields 8 = .ok (.aload_n 1, 1) := by decide +kernel
theorem dX6_copyYields_9 : decode cX6_copyYields 9 = .ok (.iload_n 2, 1) := by decide +kernel
theorem dX6_copyYields_10 : decode cX6_copyYields 10 = .ok (.bipush 16, 2) := by decide +kernel
theorem dX6_copyYields_12 : decode cX6_copyYields 12 = .ok (.imul, 1) := by decide +kernel
theorem dX6_copyYields_13 : decode cX6_copyYields 13 = .ok (.iload_n 3, 1) := by decide +kernel
theorem dX6_copyYields_14 : decode cX6_copyYields 14 = .ok (.iadd, 1) := by decide +kernel
theorem dX6_copyYields_15 : decode cX6_copyYields 15 = .ok (.iconst 0, 1) := by decide +kernel
theorem dX6_copyYields_16 : decode cX6_copyYields 16 = .ok (.aload_n 0, 1) := by decide +kernel
theorem dX6_copyYields_17 : decode cX6_copyYields 17 = .ok (.getfield 19, 3) := by decide +kernel
theorem dX6_copyYields_20 : decode cX6_copyYields 20 = .ok (.iload_n 3, 1) := by decide +kernel
theorem dX6_copyYields_21 : decode cX6_copyYields 21 = .ok (.iaload, 1) := by decide +kernel
theorem dX6_copyYields_22 : decode cX6_copyYields 22 = .ok (.invokestatic 40, 3) := by decide +kernel
theorem dX6_copyYields_25 : decode cX6_copyYields 25 = .ok (.iastore, 1) := by decide +kernel
theorem dX6_copyYields_26 : decode cX6_copyYields 26 = .ok (.iinc 3 1, 3) := by decide +kernel
theorem dX6_copyYields_29 : decode cX6_copyYields 29 = .ok (.goto (-27), 3) := by decide +kernel
theorem dX6_copyYields_32 : decode cX6_copyYields 32 = .ok (.return_, 1) := by decide +kernel
theorem dX6_readFor_0 : decode cX6_readFor 0 = .ok (.aload_n 0, 1) := by decide +kernel
theorem dX6_readFor_1 : decode cX6_readFor 1 = .ok (.iload_n 2, 1) := by decide +kernel
theorem dX6_readFor_2 : decode cX6_readFor 2 = .ok (.putfield 46, 3) := by decide +kernel
theorem dX6_readFor_5 : decode cX6_readFor 5 = .ok (.aload_n 0, 1) := by decide +kernel
theorem dX6_readFor_6 : decode cX6_readFor 6 = .ok (.iload_n 3, 1) := by decide +kernel
theorem dX6_readFor_7 : decode cX6_readFor 7 = .ok (.putfield 49, 3) := by decide +kernel
theorem dX6_readFor_10 : decode cX6_readFor 10 = .ok (.aload_n 0, 1) := by decide +kernel
theorem dX6_readFor_11 : decode cX6_readFor 11 = .ok (.iload 4, 2) := by decide +kernel
theorem dX6_readFor_13 : decode cX6_readFor 13 = .ok (.putfield 52, 3) := by decide +kernel
theorem dX6_readFor_16 : decode cX6_readFor 16 = .ok (.aload_n 0, 1) := by decide +kernel
theorem dX6_readFor_17 : decode cX6_readFor 17 = .ok (.iconst 0, 1) := by decide +kernel
theorem dX6_readFor_18 : decode cX6_readFor 18 = .ok (.putfield 34, 3) := by decide +kernel
theorem dX6_readFor_21 : decode cX6_readFor 21 = .ok (.aload_n 0, 1) := by decide +kernel
theorem dX6_readFor_22 : decode cX6_readFor 22 = .ok (.iconst 0, 1) := by decide +kernel
theorem dX6_readFor_23 : decode cX6_readFor 23 = .ok (.putfield 30, 3) := by decide +kernel
theorem dX6_readFor_26 : decode cX6_readFor 26 = .ok (.aload_n 0, 1) := by decide +kernel
theorem dX6_readFor_27 : decode cX6_readFor 27 = .ok (.bipush 30, 2) := by decide +kernel
theorem dX6_readFor_29 : decode cX6_readFor 29 = .ok (.putfield 37, 3) := by decide +kernel
theorem dX6_readFor_32 : decode cX6_readFor 32 = .ok (.iconst 0, 1) := by decide +kernel
theorem dX6_readFor_33 : decode cX6_readFor 33 = .ok (.istore 5, 2) := by decide +kernel
theorem dX6_readFor_35 : decode cX6_readFor 35 = .ok (.iload 5, 2) := by decide +kernel
theorem dX6_readFor_37 : decode cX6_readFor 37 = .ok (.bipush 16, 2) := by decide +kernel
theorem dX6_readFor_39 : decode cX6_readFor 39 = .ok (.if_icmp .ge 17, 3) := by decide +kernel
theorem dX6_readFor_42 : decode cX6_readFor 42 = .ok (.aload_n 0, 1) := by decide +kernel
theorem dX6_readFor_43 : decode cX6_readFor 43 = .ok (.getfield 19, 3) := by decide +kernel
theorem dX6_readFor_46 : decode cX6_readFor 46 = .ok (.iload 5, 2) := by decide +kernel
theorem dX6_readFor_48 : decode cX6_readFor 48 = .ok (.iconst 1, 1) := by decide +kernel
theorem dX6_readFor_49 : decode cX6_readFor 49 = .ok (.iastore, 1) := by decide +kernel
theorem dX6_readFor_50 : decode cX6_readFor 50 = .ok (.iinc 5 1, 3) := by decide +kernel
theorem dX6_readFor_53 : decode cX6_readFor 53 = .ok (.goto (-18), 3) := by decide +kernel
theorem dX6_readFor_56 : decode cX6_readFor 56 = .ok (.iload_n 1, 1) := by decide +kernel
theorem dX6_readFor_57 : decode cX6_readFor 57 = .ok (.ifCond .lt 9, 3) := by decide +kernel
theorem dX6_readFor_60 : decode cX6_readFor 60 = .ok (.iload_n 1, 1) := by decide +kernel
theorem dX6_readFor_61 : decode cX6_readFor 61 = .ok (.bipush 6, 2) := by decide +kernel
theorem dX6_readFor_63 : decode cX6_readFor 63 = .ok (.if_icmp .le 4, 3) := by decide +kernel
theorem dX6_readFor_66 : decode cX6_readFor 66 = .ok (.return_, 1) := by decide +kernel
theorem dX6_readFor_67 : decode cX6_readFor 67 = .ok (.aload_n 0, 1) := by decide +kernel
theorem dX6_readFor_68 : decode cX6_readFor 68 = .ok (.iload_n 1, 1) := by decide +kernel
theorem dX6_readFor_69 : decode cX6_readFor 69 = .ok (.bipush 100, 2) := by decide +kernel
theorem dX6_readFor_71 : decode cX6_readFor 71 = .ok (.imul, 1) := by decide +kernel
theorem dX6_readFor_72 : decode cX6_readFor 72 = .ok (.putfield 55, 3) := by decide +kernel
theorem dX6_readFor_75 : decode cX6_readFor 75 = .ok (.aload_n 0, 1) := by decide +kernel
theorem dX6_readFor_76 : decode cX6_readFor 76 = .ok (.aload_n 0, 1) := by decide +kernel
theorem dX6_readFor_77 : decode cX6_readFor 77 = .ok (.getfield 15, 3) := by decide +kernel
theorem dX6_readFor_80 : decode cX6_readFor 80 = .ok (.iload_n 1, 1) := by decide +kernel
theorem dX6_readFor_81 : decode cX6_readFor 81 = .ok (.iaload, 1) := by decide +kernel
theorem dX6_readFor_82 : decode cX6_readFor 82 = .ok (.putfield 58, 3) := by decide +kernel
theorem dX6_readFor_85 : decode cX6_readFor 85 = .ok (.aload_n 0, 1) := by decide +kernel
theorem dX6_readFor_86 : decode cX6_readFor 86 = .ok (.invokevirtual 61, 3) := by decide +kernel
theorem dX6_readFor_89 : decode cX6_readFor 89 = .ok (.iconst 1, 1) := by decide +kernel
theorem dX6_readFor_90 : decode cX6_readFor 90 = .ok (.istore 5, 2) := by decide +kernel
theorem dX6_readFor_92 : decode cX6_readFor 92 = .ok (.iload 5, 2) := by decide +kernel
theorem dX6_readFor_94 : decode cX6_readFor 94 = .ok (.bipush 10, 2) := by decide +kernel
theorem dX6_readFor_96 : decode cX6_readFor 96 = .ok (.if_icmp .ge 39, 3) := by decide +kernel
theorem dX6_readFor_99 : decode cX6_readFor 99 = .ok (.aload_n 0, 1) := by decide +kernel
theorem dX6_readFor_100 : decode cX6_readFor 100 = .ok (.getfield 30, 3) := by decide +kernel
theorem dX6_readFor_103 : decode cX6_readFor 103 = .ok (.ifCond .ne 32, 3) := by decide +kernel
theorem dX6_readFor_106 : decode cX6_readFor 106 = .ok (.aload_n 0, 1) := by decide +kernel
theorem dX6_readFor_107 : decode cX6_readFor 107 = .ok (.invokevirtual 64, 3) := by decide +kernel
theorem dX6_readFor_110 : decode cX6_readFor 110 = .ok (.bipush 59, 2) := by decide +kernel
theorem dX6_readFor_112 : decode cX6_readFor 112 = .ok (.if_icmp .ne 23, 3) := by decide +kernel
theorem dX6_readFor_115 : decode cX6_readFor 115 = .ok (.aload_n 0, 1) := by decide +kernel
theorem dX6_readFor_116 : decode cX6_readFor 116 = .ok (.dup, 1) := by decide +kernel
theorem dX6_readFor_117 : decode cX6_readFor 117 = .ok (.getfield 34, 3) := by decide +kernel
theorem dX6_readFor_120 : decode cX6_readFor 120 = .ok (.iconst 1, 1) := by decide +kernel
theorem dX6_readFor_121 : decode cX6_readFor 121 = .ok (.iadd, 1) := by decide +kernel
theorem dX6_readFor_122 : decode cX6_readFor 122 = .ok (.putfield 34, 3) := by decide +kernel
theorem dX6_readFor_125 : decode cX6_readFor 125 = .ok (.aload_n 0, 1) := by decide +kernel
theorem dX6_readFor_126 : decode cX6_readFor 126 = .ok (.invokevirtual 61, 3) := by decide +kernel
theorem dX6_readFor_129 : decode cX6_readFor 129 = .ok (.iinc 5 1, 3) := by decide +kernel
theorem dX6_readFor_132 : decode cX6_readFor 132 = .ok (.goto (-40), 3) := by decide +kernel
theorem dX6_readFor_135 : decode cX6_readFor 135 = .ok (.aload_n 0, 1) := by decide +kernel
theorem dX6_readFor_136 : decode cX6_readFor 136 = .ok (.getfield 34, 3) := by decide +kernel
theorem dX6_readFor_139 : decode cX6_readFor 139 = .ok (.aload_n 0, 1) := by decide +kernel
theorem dX6_readFor_140 : decode cX6_readFor 140 = .ok (.getfield 58, 3) := by decide +kernel
theorem dX6_readFor_143 : decode cX6_readFor 143 = .ok (.if_icmp .ge 8, 3) := by decide +kernel
theorem dX6_readFor_146 : decode cX6_readFor 146 = .ok (.aload_n 0, 1) := by decide +kernel
theorem dX6_readFor_147 : decode cX6_readFor 147 = .ok (.iconst 1, 1) := by decide +kernel
theorem dX6_readFor_148 : decode cX6_readFor 148 = .ok (.putfield 30, 3) := by decide +kernel
theorem dX6_readFor_151 : decode cX6_readFor 151 = .ok (.return_, 1) := by decide +kernel
theorem dX6_clause_0 : decode cX6_clause 0 = .ok (.aload_n 0, 1) := by decide +kernel
theorem dX6_clause_1 : decode cX6_clause 1 = .ok (.invokevirtual 64, 3) := by decide +kernel
theorem dX6_clause_4 : decode cX6_clause 4 = .ok (.bipush 98, 2) := by decide +kernel
theorem dX6_clause_6 : decode cX6_clause 6 = .ok (.if_icmp .ne 18, 3) := by decide +kernel
theorem dX6_clause_9 : decode cX6_clause 9 = .ok (.aload_n 0, 1) := by decide +kernel
theorem dX6_clause_10 : decode cX6_clause 10 = .ok (.ldc 68, 2) := by decide +kernel
theorem dX6_clause_12 : decode cX6_clause 12 = .ok (.invokevirtual 70, 3) := by decide +kernel
theorem dX6_clause_15 : decode cX6_clause 15 = .ok (.aload_n 0, 1) := by decide +kernel
theorem dX6_clause_16 : decode cX6_clause 16 = .ok (.aload_n 0, 1) := by decide +kernel
theorem dX6_clause_17 : decode cX6_clause 17 = .ok (.invokevirtual 74, 3) := by decide +kernel
theorem dX6_clause_20 : decode cX6_clause 20 = .ok (.putfield 37, 3) := by decide +kernel
theorem dX6_clause_23 : decode cX6_clause 23 = .ok (.return_, 1) := by decide +kernel
theorem dX6_clause_24 : decode cX6_clause 24 = .ok (.aload_n 0, 1) := by decide +kernel
theorem dX6_clause_25 : decode cX6_clause 25 = .ok (.invokevirtual 64, 3) := by decide +kernel
theorem dX6_clause_28 : decode cX6_clause 28 = .ok (.bipush 104, 2) := by decide +kernel
theorem dX6_clause_30 : decode cX6_clause 30 = .ok (.if_icmp .ne 7, 3) := by decide +kernel
theorem dX6_clause_33 : decode cX6_clause 33 = .ok (.iconst (-1), 1) := by decide +kernel
theorem dX6_clause_34 : decode cX6_clause 34 = .ok (.goto 4, 3) := by decide +kernel
theorem dX6_clause_37 : decode cX6_clause 37 = .ok (.iconst 1, 1) := by decide +kernel
theorem dX6_clause_38 : decode cX6_clause 38 = .ok (.istore_n 1, 1) := by decide +kernel
theorem dX6_clause_39 : decode cX6_clause 39 = .ok (.aload_n 0, 1) := by decide +kernel
theorem dX6_clause_40 : decode cX6_clause 40 = .ok (.iload_n 1, 1) := by decide +kernel
theorem dX6_clause_41 : decode cX6_clause 41 = .ok (.ifCond .ge 8, 3) := by decide +kernel
theorem dX6_clause_44 : decode cX6_clause 44 = .ok (.ldc 77, 2) := by decide +kernel
theorem dX6_clause_46 : decode cX6_clause 46 = .ok (.goto 5, 3) := by decide +kernel
theorem dX6_clause_49 : decode cX6_clause 49 = .ok (.ldc 79, 2) := by decide +kernel
theorem dX6_clause_51 : decode cX6_clause 51 = .ok (.invokevirtual 70, 3) := by decide +kernel
theorem dX6_clause_54 : decode cX6_clause 54 = .ok (.aload_n 0, 1) := by decide +kernel
theorem dX6_clause_55 : decode cX6_clause 55 = .ok (.invokevirtual 74, 3) := by decide +kernel
theorem dX6_clause_58 : decode cX6_clause 58 = .ok (.istore_n 2, 1) := by decide +kernel
theorem dX6_clause_59 : decode cX6_clause 59 = .ok (.aload_n 0, 1) := by decide +kernel
theorem dX6_clause_60 : decode cX6_clause 60 = .ok (.ldc 81, 2) := by decide +kernel
theorem dX6_clause_62 : decode cX6_clause 62 = .ok (.invokevirtual 70, 3) := by decide +kernel
theorem dX6_clause_65 : decode cX6_clause 65 = .ok (.aload_n 0, 1) := by decide +kernel
theorem dX6_clause_66 : decode cX6_clause 66 = .ok (.iconst 0, 1) := by decide +kernel
theorem dX6_clause_67 : decode cX6_clause 67 = .ok (.invokevirtual 83, 3) := by decide +kernel
theorem dX6_clause_70 : decode cX6_clause 70 = .ok (.istore_n 3, 1) := by decide +kernel
theorem dX6_clause_71 : decode cX6_clause 71 = .ok (.iconst 0, 1) := by decide +kernel
theorem dX6_clause_72 : decode cX6_clause 72 = .ok (.istore 4, 2) := by decide +kernel
theorem dX6_clause_74 : decode cX6_clause 74 = .ok (.iload 4, 2) := by decide +kernel
theorem dX6_clause_76 : decode cX6_clause 76 = .ok (.bipush 16, 2) := by decide +kernel
theorem dX6_clause_78 : decode cX6_clause 78 = .ok (.if_icmp .ge 31, 3) := by decide +kernel
theorem dX6_clause_81 : decode cX6_clause 81 = .ok (.iload_n 3, 1) := by decide +kernel
theorem dX6_clause_82 : decode cX6_clause 82 = .ok (.iload 4, 2) := by decide +kernel
theorem dX6_clause_84 : decode cX6_clause 84 = .ok (.invokestatic 87, 3) := by decide +kernel
theorem dX6_clause_87 : decode cX6_clause 87 = .ok (.ifCond .eq 16, 3) := by decide +kernel
theorem dX6_clause_90 : decode cX6_clause 90 = .ok (.aload_n 0, 1) := by decide +kernel
theorem dX6_clause_91 : decode cX6_clause 91 = .ok (.getfield 19, 3) := by decide +kernel
theorem dX6_clause_94 : decode cX6_clause 94 = .ok (.iload 4, 2) := by decide +kernel
theorem dX6_clause_96 : decode cX6_clause 96 = .ok (.dup2, 1) := by decide +kernel
theorem dX6_clause_97 : decode cX6_clause 97 = .ok (.iaload, 1) := by decide +kernel
theorem dX6_clause_98 : decode cX6_clause 98 = .ok (.iload_n 1, 1) := by decide +kernel
theorem dX6_clause_99 : decode cX6_clause 99 = .ok (.iload_n 2, 1) := by decide +kernel
theorem dX6_clause_100 : decode cX6_clause 100 = .ok (.imul, 1) := by decide +kernel
theorem dX6_clause_101 : decode cX6_clause 101 = .ok (.iadd, 1) := by decide +kernel
theorem dX6_clause_102 : decode cX6_clause 102 = .ok (.iastore, 1) := by decide +kernel
theorem dX6_clause_103 : decode cX6_clause 103 = .ok (.iinc 4 1, 3) := by decide +kernel
theorem dX6_clause_106 : decode cX6_clause 106 = .ok (.goto (-32), 3) := by decide +kernel
theorem dX6_clause_109 : decode cX6_clause 109 = .ok (.return_, 1) := by decide +kernel
theorem dX6_expression_0 : decode cX6_expression 0 = .ok (.iconst 0, 1) := by decide +kernel
theorem dX6_expression_1 : decode cX6_expression 1 = .ok (.istore_n 2, 1) := by decide +kernel
theorem dX6_expression_2 : decode cX6_expression 2 = .ok (.ldc 93, 2) := by decide +kernel
theorem dX6_expression_4 : decode cX6_expression 4 = .ok (.istore_n 3, 1) := by decide +kernel
theorem dX6_expression_5 : decode cX6_expression 5 = .ok (.iconst 0, 1) := by decide +kernel
theorem dX6_expression_6 : decode cX6_expression 6 = .ok (.istore 4, 2) := by decide +kernel
theorem dX6_expression_8 : decode cX6_expression 8 = .ok (.iload 4, 2) := by decide +kernel
theorem dX6_expression_10 : decode cX6_expression 10 = .ok (.bipush 100, 2) := by decide +kernel
theorem dX6_expression_12 : decode cX6_expression 12 = .ok (.if_icmp .ge 78, 3) := by decide +kernel
theorem dX6_expression_15 : decode cX6_expression 15 = .ok (.aload_n 0, 1) := by decide +kernel
theorem dX6_expression_16 : decode cX6_expression 16 = .ok (.getfield 30, 3) := by decide +kernel
theorem dX6_expression_19 : decode cX6_expression 19 = .ok (.ifCond .ne 71, 3) := by decide +kernel
theorem dX6_expression_22 : decode cX6_expression 22 = .ok (.iload_n 3, 1) := by decide +kernel
theorem dX6_expression_23 : decode cX6_expression 23 = .ok (.aload_n 0, 1) := by decide +kernel
theorem dX6_expression_24 : decode cX6_expression 24 = .ok (.iload_n 1, 1) := by decide +kernel
theorem dX6_expression_25 : decode cX6_expression 25 = .ok (.invokevirtual 94, 3) := by decide +kernel
theorem dX6_expression_28 : decode cX6_expression 28 = .ok (.iand, 1) := by decide +kernel
theorem dX6_expression_29 : decode cX6_expression 29 = .ok (.istore_n 3, 1) := by decide +kernel
theorem dX6_expression_30 : decode cX6_expression 30 = .ok (.aload_n 0, 1) := by decide +kernel
theorem dX6_expression_31 : decode cX6_expression 31 = .ok (.invokevirtual 64, 3) := by decide +kernel
theorem dX6_expression_34 : decode cX6_expression 34 = .ok (.istore 5, 2) := by decide +kernel
theorem dX6_expression_36 : decode cX6_expression 36 = .ok (.aload_n 0, 1) := by decide +kernel
theorem dX6_expression_37 : decode cX6_expression 37 = .ok (.getfield 30, 3) := by decide +kernel
theorem dX6_expression_40 : decode cX6_expression 40 = .ok (.ifCond .ne 50, 3) := by decide +kernel
theorem dX6_expression_43 : decode cX6_expression 43 = .ok (.iload 5, 2) := by decide +kernel
theorem dX6_expression_45 : decode cX6_expression 45 = .ok (.bipush 124, 2) := by decide +kernel
theorem dX6_expression_47 : decode cX6_expression 47 = .ok (.if_icmp .eq 13, 3) := by decide +kernel
theorem dX6_expression_50 : decode cX6_expression 50 = .ok (.iload 5, 2) := by decide +kernel
theorem dX6_expression_52 : decode cX6_expression 52 = .ok (.bipush 38, 2) := by decide +kernel
theorem dX6_expression_54 : decode cX6_expression 54 = .ok (.if_icmp .eq 6, 3) := by decide +kernel
theorem dX6_expression_57 : decode cX6_expression 57 = .ok (.goto 33, 3) := by decide +kernel
theorem dX6_expression_60 : decode cX6_expression 60 = .ok (.iload 5, 2) := by decide +kernel
theorem dX6_expression_62 : decode cX6_expression 62 = .ok (.bipush 124, 2) := by decide +kernel
theorem dX6_expression_64 : decode cX6_expression 64 = .ok (.if_icmp .ne 10, 3) := by decide +kernel
theorem dX6_expression_67 : decode cX6_expression 67 = .ok (.iload_n 2, 1) := by decide +kernel
theorem dX6_expression_68 : decode cX6_expression 68 = .ok (.iload_n 3, 1) := by decide +kernel
theorem dX6_expression_69 : decode cX6_expression 69 = .ok (.ior, 1) := by decide +kernel
theorem dX6_expression_70 : decode cX6_expression 70 = .ok (.istore_n 2, 1) := by decide +kernel
theorem dX6_expression_71 : decode cX6_expression 71 = .ok (.ldc 93, 2) := by decide +kernel
theorem dX6_expression_73 : decode cX6_expression 73 = .ok (.istore_n 3, 1) := by decide +kernel
theorem dX6_expression_74 : decode cX6_expression 74 = .ok (.aload_n 0, 1) := by decide +kernel
theorem dX6_expression_75 : decode cX6_expression 75 = .ok (.dup, 1) := by decide +kernel
theorem dX6_expression_76 : decode cX6_expression 76 = .ok (.getfield 34, 3) := by decide +kernel
theorem dX6_expression_79 : decode cX6_expression 79 = .ok (.iconst 1, 1) := by decide +kernel
theorem dX6_expression_80 : decode cX6_expression 80 = .ok (.iadd, 1) := by decide +kernel
theorem dX6_expression_81 : decode cX6_expression 81 = .ok (.putfield 34, 3) := by decide +kernel
theorem dX6_expression_84 : decode cX6_expression 84 = .ok (.iinc 4 1, 3) := by decide +kernel
theorem dX6_expression_87 : decode cX6_expression 87 = .ok (.goto (-79), 3) := by decide +kernel
theorem dX6_expression_90 : decode cX6_expression 90 = .ok (.iload_n 2, 1) := by decide +kernel
theorem dX6_expression_91 : decode cX6_expression 91 = .ok (.iload_n 3, 1) := by decide +kernel
theorem dX6_expression_92 : decode cX6_expression 92 = .ok (.ior, 1) := by decide +kernel
theorem dX6_expression_93 : decode cX6_expression 93 = .ok (.ireturn, 1) := by decide +kernel
theorem dX6_factor_0 : decode cX6_factor 0 = .ok (.iload_n 1, 1) := by decide +kernel
theorem dX6_factor_1 : decode cX6_factor 1 = .ok (.istore_n 2, 1) := by decide +kernel
theorem dX6_factor_2 : decode cX6_factor 2 = .ok (.iconst 0, 1) := by decide +kernel
theorem dX6_factor_3 : decode cX6_factor 3 = .ok (.istore_n 3, 1) := by decide +kernel
theorem dX6_factor_4 : decode cX6_factor 4 = .ok (.iconst 0, 1) := by decide +kernel
theorem dX6_factor_5 : decode cX6_factor 5 = .ok (.istore 4, 2) := by decide +kernel
theorem dX6_factor_7 : decode cX6_factor 7 = .ok (.iload 4, 2) := by decide +kernel
theorem dX6_factor_9 : decode cX6_factor 9 = .ok (.iconst 4, 1) := by decide +kernel
theorem dX6_factor_10 : decode cX6_factor 10 = .ok (.if_icmp .ge 46, 3) := by decide +kernel
theorem dX6_factor_13 : decode cX6_factor 13 = .ok (.iload_n 2, 1) := by decide +kernel
theorem dX6_factor_14 : decode cX6_factor 14 = .ok (.iconst 4, 1) := by decide +kernel
theorem dX6_factor_15 : decode cX6_factor 15 = .ok (.if_icmp .ge 41, 3) := by decide +kernel
theorem dX6_factor_18 : decode cX6_factor 18 = .ok (.aload_n 0, 1) := by decide +kernel
theorem dX6_factor_19 : decode cX6_factor 19 = .ok (.invokevirtual 64, 3) := by decide +kernel
theorem dX6_factor_22 : decode cX6_factor 22 = .ok (.bipush 33, 2) := by decide +kernel
theorem dX6_factor_24 : decode cX6_factor 24 = .ok (.if_icmp .ne 32, 3) := by decide +kernel
theorem dX6_factor_27 : decode cX6_factor 27 = .ok (.aload_n 0, 1) := by decide +kernel
theorem dX6_factor_28 : decode cX6_factor 28 = .ok (.dup, 1) := by decide +kernel
theorem dX6_factor_29 : decode cX6_factor 29 = .ok (.getfield 34, 3) := by decide +kernel
theorem dX6_factor_32 : decode cX6_factor 32 = .ok (.iconst 1, 1) := by decide +kernel
theorem dX6_factor_33 : decode cX6_factor 33 = .ok (.iadd, 1) := by decide +kernel
theorem dX6_factor_34 : decode cX6_factor 34 = .ok (.putfield 34, 3) := by decide +kernel
theorem dX6_factor_37 : decode cX6_factor 37 = .ok (.iinc 2 1, 3) := by decide +kernel
theorem dX6_factor_40 : decode cX6_factor 40 = .ok (.iload_n 3, 1) := by decide +kernel
theorem dX6_factor_41 : decode cX6_factor 41 = .ok (.ifCond .ne 7, 3) := by decide +kernel
theorem dX6_factor_44 : decode cX6_factor 44 = .ok (.iconst 1, 1) := by decide +kernel
theorem dX6_factor_45 : decode cX6_factor 45 = .ok (.goto 4, 3) := by decide +kernel
theorem dX6_factor_48 : decode cX6_factor 48 = .ok (.iconst 0, 1) := by decide +kernel
theorem dX6_factor_49 : decode cX6_factor 49 = .ok (.istore_n 3, 1) := by decide +kernel
theorem dX6_factor_50 : decode cX6_factor 50 = .ok (.iinc 4 1, 3) := by decide +kernel
theorem dX6_factor_53 : decode cX6_factor 53 = .ok (.goto (-46), 3) := by decide +kernel
theorem dX6_factor_56 : decode cX6_factor 56 = .ok (.aload_n 0, 1) := by decide +kernel
theorem dX6_factor_57 : decode cX6_factor 57 = .ok (.invokevirtual 64, 3) := by decide +kernel
theorem dX6_factor_60 : decode cX6_factor 60 = .ok (.bipush 40, 2) := by decide +kernel
theorem dX6_factor_62 : decode cX6_factor 62 = .ok (.if_icmp .ne 36, 3) := by decide +kernel
theorem dX6_factor_65 : decode cX6_factor 65 = .ok (.iload_n 2, 1) := by decide +kernel
theorem dX6_factor_66 : decode cX6_factor 66 = .ok (.iconst 4, 1) := by decide +kernel
theorem dX6_factor_67 : decode cX6_factor 67 = .ok (.if_icmp .ge 31, 3) := by decide +kernel
theorem dX6_factor_70 : decode cX6_factor 70 = .ok (.aload_n 0, 1) := by decide +kernel
theorem dX6_factor_71 : decode cX6_factor 71 = .ok (.dup, 1) := by decide +kernel
theorem dX6_factor_72 : decode cX6_factor 72 = .ok (.getfield 34, 3) := by decide +kernel
theorem dX6_factor_75 : decode cX6_factor 75 = .ok (.iconst 1, 1) := by decide +kernel
theorem dX6_factor_76 : decode cX6_factor 76 = .ok (.iadd, 1) := by decide +kernel
theorem dX6_factor_77 : decode cX6_factor 77 = .ok (.putfield 34, 3) := by decide +kernel
theorem dX6_factor_80 : decode cX6_factor 80 = .ok (.aload_n 0, 1) := by decide +kernel
theorem dX6_factor_81 : decode cX6_factor 81 = .ok (.iload_n 2, 1) := by decide +kernel
theorem dX6_factor_82 : decode cX6_factor 82 = .ok (.iconst 1, 1) := by decide +kernel
theorem dX6_factor_83 : decode cX6_factor 83 = .ok (.iadd, 1) := by decide +kernel
theorem dX6_factor_84 : decode cX6_factor 84 = .ok (.invokevirtual 83, 3) := by decide +kernel
theorem dX6_factor_87 : decode cX6_factor 87 = .ok (.istore 4, 2) := by decide +kernel
theorem dX6_factor_89 : decode cX6_factor 89 = .ok (.aload_n 0, 1) := by decide +kernel
theorem dX6_factor_90 : decode cX6_factor 90 = .ok (.ldc 97, 2) := by decide +kernel
theorem dX6_factor_92 : decode cX6_factor 92 = .ok (.invokevirtual 70, 3) := by decide +kernel
theorem dX6_factor_95 : decode cX6_factor 95 = .ok (.goto 9, 3) := by decide +kernel
theorem dX6_factor_98 : decode cX6_factor 98 = .ok (.aload_n 0, 1) := by decide +kernel
theorem dX6_factor_99 : decode cX6_factor 99 = .ok (.invokevirtual 99, 3) := by decide +kernel
theorem dX6_factor_102 : decode cX6_factor 102 = .ok (.istore 4, 2) := by decide +kernel
theorem dX6_factor_104 : decode cX6_factor 104 = .ok (.iload_n 3, 1) := by decide +kernel
theorem dX6_factor_105 : decode cX6_factor 105 = .ok (.ifCond .eq 13, 3) := by decide +kernel
theorem dX6_factor_108 : decode cX6_factor 108 = .ok (.ldc 93, 2) := by decide +kernel
theorem dX6_factor_110 : decode cX6_factor 110 = .ok (.iload 4, 2) := by decide +kernel
theorem dX6_factor_112 : decode cX6_factor 112 = .ok (.iconst (-1), 1) := by decide +kernel
theorem dX6_factor_113 : decode cX6_factor 113 = .ok (.ixor, 1) := by decide +kernel
theorem dX6_factor_114 : decode cX6_factor 114 = .ok (.iand, 1) := by decide +kernel
theorem dX6_factor_115 : decode cX6_factor 115 = .ok (.goto 5, 3) := by decide +kernel
theorem dX6_factor_118 : decode cX6_factor 118 = .ok (.iload 4, 2) := by decide +kernel
theorem dX6_factor_120 : decode cX6_factor 120 = .ok (.ireturn, 1) := by decide +kernel
theorem dX6_test_0 : decode cX6_test 0 = .ok (.aload_n 0, 1) := by decide +kernel
theorem dX6_test_1 : decode cX6_test 1 = .ok (.invokevirtual 64, 3) := by decide +kernel
theorem dX6_test_4 : decode cX6_test 4 = .ok (.istore_n 1, 1) := by decide +kernel
theorem dX6_test_5 : decode cX6_test 5 = .ok (.iload_n 1, 1) := by decide +kernel
theorem dX6_test_6 : decode cX6_test 6 = .ok (.invokestatic 102, 3) := by decide +kernel
theorem dX6_test_9 : decode cX6_test 9 = .ok (.ifCond .ne 8, 3) := by decide +kernel
theorem dX6_test_12 : decode cX6_test 12 = .ok (.aload_n 0, 1) := by decide +kernel
theorem dX6_test_13 : decode cX6_test 13 = .ok (.invokevirtual 106, 3) := by decide +kernel
theorem dX6_test_16 : decode cX6_test 16 = .ok (.ireturn, 1) := by decide +kernel
theorem dX6_test_17 : decode cX6_test 17 = .ok (.aload_n 0, 1) := by decide +kernel
theorem dX6_test_18 : decode cX6_test 18 = .ok (.dup, 1) := by decide +kernel
theorem dX6_test_19 : decode cX6_test 19 = .ok (.getfield 34, 3) := by decide +kernel
theorem dX6_test_22 : decode cX6_test 22 = .ok (.iconst 1, 1) := by decide +kernel
theorem dX6_test_23 : decode cX6_test 23 = .ok (.iadd, 1) := by decide +kernel
theorem dX6_test_24 : decode cX6_test 24 = .ok (.putfield 34, 3) := by decide +kernel
theorem dX6_test_27 : decode cX6_test 27 = .ok (.aload_n 0, 1) := by decide +kernel
theorem dX6_test_28 : decode cX6_test 28 = .ok (.invokevirtual 64, 3) := by decide +kernel
theorem dX6_test_31 : decode cX6_test 31 = .ok (.istore_n 2, 1) := by decide +kernel
theorem dX6_test_32 : decode cX6_test 32 = .ok (.iload_n 2, 1) := by decide +kernel
theorem dX6_test_33 : decode cX6_test 33 = .ok (.bipush 60, 2) := by decide +kernel
theorem dX6_test_35 : decode cX6_test 35 = .ok (.if_icmp .eq 20, 3) := by decide +kernel
theorem dX6_test_38 : decode cX6_test 38 = .ok (.iload_n 2, 1) := by decide +kernel
theorem dX6_test_39 : decode cX6_test 39 = .ok (.bipush 61, 2) := by decide +kernel
theorem dX6_test_41 : decode cX6_test 41 = .ok (.if_icmp .eq 14, 3) := by decide +kernel
theorem dX6_test_44 : decode cX6_test 44 = .ok (.iload_n 2, 1) := by decide +kernel
theorem dX6_test_45 : decode cX6_test 45 = .ok (.bipush 62, 2) := by decide +kernel
theorem dX6_test_47 : decode cX6_test 47 = .ok (.if_icmp .eq 8, 3) := by decide +kernel
theorem dX6_test_50 : decode cX6_test 50 = .ok (.aload_n 0, 1) := by decide +kernel
theorem dX6_test_51 : decode cX6_test 51 = .ok (.invokevirtual 106, 3) := by decide +kernel
theorem dX6_test_54 : decode cX6_test 54 = .ok (.ireturn, 1) := by decide +kernel
theorem dX6_test_55 : decode cX6_test 55 = .ok (.aload_n 0, 1) := by decide +kernel
theorem dX6_test_56 : decode cX6_test 56 = .ok (.dup, 1) := by decide +kernel
theorem dX6_test_57 : decode cX6_test 57 = .ok (.getfield 34, 3) := by decide +kernel
theorem dX6_test_60 : decode cX6_test 60 = .ok (.iconst 1, 1) := by decide +kernel
theorem dX6_test_61 : decode cX6_test 61 = .ok (.iadd, 1) := by decide +kernel
theorem dX6_test_62 : decode cX6_test 62 = .ok (.putfield 34, 3) := by decide +kernel
theorem dX6_test_65 : decode cX6_test 65 = .ok (.aload_n 0, 1) := by decide +kernel
theorem dX6_test_66 : decode cX6_test 66 = .ok (.invokevirtual 74, 3) := by decide +kernel
theorem dX6_test_69 : decode cX6_test 69 = .ok (.istore_n 3, 1) := by decide +kernel
theorem dX6_test_70 : decode cX6_test 70 = .ok (.iconst 0, 1) := by decide +kernel
theorem dX6_test_71 : decode cX6_test 71 = .ok (.istore 4, 2) := by decide +kernel
theorem dX6_test_73 : decode cX6_test 73 = .ok (.iconst 0, 1) := by decide +kernel
theorem dX6_test_74 : decode cX6_test 74 = .ok (.istore 5, 2) := by decide +kernel
theorem dX6_test_76 : decode cX6_test 76 = .ok (.iload 5, 2) := by decide +kernel
theorem dX6_test_78 : decode cX6_test 78 = .ok (.bipush 16, 2) := by decide +kernel
theorem dX6_test_80 : decode cX6_test 80 = .ok (.if_icmp .ge 63, 3) := by decide +kernel
theorem dX6_test_83 : decode cX6_test 83 = .ok (.aload_n 0, 1) := by decide +kernel
theorem dX6_test_84 : decode cX6_test 84 = .ok (.iload_n 1, 1) := by decide +kernel
theorem dX6_test_85 : decode cX6_test 85 = .ok (.iload 5, 2) := by decide +kernel
theorem dX6_test_87 : decode cX6_test 87 = .ok (.invokevirtual 109, 3) := by decide +kernel
theorem dX6_test_90 : decode cX6_test 90 = .ok (.istore 6, 2) := by decide +kernel
theorem dX6_test_92 : decode cX6_test 92 = .ok (.iload_n 2, 1) := by decide +kernel
theorem dX6_test_93 : decode cX6_test 93 = .ok (.bipush 60, 2) := by decide +kernel
theorem dX6_test_95 : decode cX6_test 95 = .ok (.if_icmp .ne 12, 3) := by decide +kernel
theorem dX6_test_98 : decode cX6_test 98 = .ok (.iload 6, 2) := by decide +kernel
theorem dX6_test_100 : decode cX6_test 100 = .ok (.iload_n 3, 1) := by decide +kernel
theorem dX6_test_101 : decode cX6_test 101 = .ok (.if_icmp .ge 36, 3) := by decide +kernel
theorem dX6_test_104 : decode cX6_test 104 = .ok (.goto 24, 3) := by decide +kernel
theorem dX6_test_107 : decode cX6_test 107 = .ok (.iload_n 2, 1) := by decide +kernel
theorem dX6_test_108 : decode cX6_test 108 = .ok (.bipush 62, 2) := by decide +kernel
theorem dX6_test_110 : decode cX6_test 110 = .ok (.if_icmp .ne 12, 3) := by decide +kernel
theorem dX6_test_113 : decode cX6_test 113 = .ok (.iload 6, 2) := by decide +kernel
theorem dX6_test_115 : decode cX6_test 115 = .ok (.iload_n 3, 1) := by decide +kernel
theorem dX6_test_116 : decode cX6_test 116 = .ok (.if_icmp .le 21, 3) := by decide +kernel
theorem dX6_test_119 : decode cX6_test 119 = .ok (.goto 9, 3) := by decide +kernel
theorem dX6_test_122 : decode cX6_test 122 = .ok (.iload 6, 2) := by decide +kernel
theorem dX6_test_124 : decode cX6_test 124 = .ok (.iload_n 3, 1) := by decide +kernel
theorem dX6_test_125 : decode cX6_test 125 = .ok (.if_icmp .ne 12, 3) := by decide +kernel
theorem dX6_test_128 : decode cX6_test 128 = .ok (.iload 4, 2) := by decide +kernel
theorem dX6_test_130 : decode cX6_test 130 = .ok (.iconst 1, 1) := by decide +kernel
theorem dX6_test_131 : decode cX6_test 131 = .ok (.iload 5, 2) := by decide +kernel
theorem dX6_test_133 : decode cX6_test 133 = .ok (.ishl, 1) := by decide +kernel
theorem dX6_test_134 : decode cX6_test 134 = .ok (.ior, 1) := by decide +kernel
theorem dX6_test_135 : decode cX6_test 135 = .ok (.istore 4, 2) := by decide +kernel
theorem dX6_test_137 : decode cX6_test 137 = .ok (.iinc 5 1, 3) := by decide +kernel
theorem dX6_test_140 : decode cX6_test 140 = .ok (.goto (-64), 3) := by decide +kernel
theorem dX6_test_143 : decode cX6_test 143 = .ok (.iload 4, 2) := by decide +kernel
theorem dX6_test_145 : decode cX6_test 145 = .ok (.ireturn, 1) := by decide +kernel
theorem dX6_isLetter_0 : decode cX6_isLetter 0 = .ok (.iload_n 0, 1) := by decide +kernel
theorem dX6_isLetter_1 : decode cX6_isLetter 1 = .ok (.bipush 99, 2) := by decide +kernel
theorem dX6_isLetter_3 : decode cX6_isLetter 3 = .ok (.if_icmp .eq 33, 3) := by decide +kernel
theorem dX6_isLetter_6 : decode cX6_isLetter 6 = .ok (.iload_n 0, 1) := by decide +kernel
theorem dX6_isLetter_7 : decode cX6_isLetter 7 = .ok (.bipush 114, 2) := by decide +kernel
theorem dX6_isLetter_9 : decode cX6_isLetter 9 = .ok (.if_icmp .eq 27, 3) := by decide +kernel
theorem dX6_isLetter_12 : decode cX6_isLetter 12 = .ok (.iload_n 0, 1) := by decide +kernel
theorem dX6_isLetter_13 : decode cX6_isLetter 13 = .ok (.bipush 120, 2) := by decide +kernel
theorem dX6_isLetter_15 : decode cX6_isLetter 15 = .ok (.if_icmp .eq 21, 3) := by decide +kernel
theorem dX6_isLetter_18 : decode cX6_isLetter 18 = .ok (.iload_n 0, 1) := by decide +kernel
theorem dX6_isLetter_19 : decode cX6_isLetter 19 = .ok (.bipush 103, 2) := by decide +kernel
theorem dX6_isLetter_21 : decode cX6_isLetter 21 = .ok (.if_icmp .eq 15, 3) := by decide +kernel
theorem dX6_isLetter_24 : decode cX6_isLetter 24 = .ok (.iload_n 0, 1) := by decide +kernel
theorem dX6_isLetter_25 : decode cX6_isLetter 25 = .ok (.bipush 107, 2) := by decide +kernel
theorem dX6_isLetter_27 : decode cX6_isLetter 27 = .ok (.if_icmp .eq 9, 3) := by decide +kernel
theorem dX6_isLetter_30 : decode cX6_isLetter 30 = .ok (.iload_n 0, 1) := by decide +kernel
theorem dX6_isLetter_31 : decode cX6_isLetter 31 = .ok (.bipush 118, 2) := by decide +kernel
theorem dX6_isLetter_33 : decode cX6_isLetter 33 = .ok (.if_icmp .ne 7, 3) := by decide +kernel
theorem dX6_isLetter_36 : decode cX6_isLetter 36 = .ok (.iconst 1, 1) := by decide +kernel
theorem dX6_isLetter_37 : decode cX6_isLetter 37 = .ok (.goto 4, 3) := by decide +kernel
theorem dX6_isLetter_40 : decode cX6_isLetter 40 = .ok (.iconst 0, 1) := by decide +kernel
theorem dX6_isLetter_41 : decode cX6_isLetter 41 = .ok (.ireturn, 1) := by decide +kernel
theorem dX6_valueOf_0 : decode cX6_valueOf 0 = .ok (.iload_n 1, 1) := by decide +kernel
theorem dX6_valueOf_1 : decode cX6_valueOf 1 = .ok (.lookupswitch 71 #[(99, 51), (103, 61), (107, 66), (114, 53), (120, 57)], 51) := by decide +kernel
theorem dX6_valueOf_52 : decode cX6_valueOf 52 = .ok (.iload_n 2, 1) := by decide +kernel
theorem dX6_valueOf_53 : decode cX6_valueOf 53 = .ok (.ireturn, 1) := by decide +kernel
theorem dX6_valueOf_54 : decode cX6_valueOf 54 = .ok (.iload_n 2, 1) := by decide +kernel
theorem dX6_valueOf_55 : decode cX6_valueOf 55 = .ok (.iconst 4, 1) := by decide +kernel
theorem dX6_valueOf_56 : decode cX6_valueOf 56 = .ok (.idiv, 1) := by decide +kernel
theorem dX6_valueOf_57 : decode cX6_valueOf 57 = .ok (.ireturn, 1) := by decide +kernel
theorem dX6_valueOf_58 : decode cX6_valueOf 58 = .ok (.iload_n 2, 1) := by decide +kernel
theorem dX6_valueOf_59 : decode cX6_valueOf 59 = .ok (.iconst 4, 1) := by decide +kernel
theorem dX6_valueOf_60 : decode cX6_valueOf 60 = .ok (.irem, 1) := by decide +kernel
theorem dX6_valueOf_61 : decode cX6_valueOf 61 = .ok (.ireturn, 1) := by decide +kernel
theorem dX6_valueOf_62 : decode cX6_valueOf 62 = .ok (.aload_n 0, 1) := by decide +kernel
theorem dX6_valueOf_63 : decode cX6_valueOf 63 = .ok (.getfield 46, 3) := by decide +kernel
theorem dX6_valueOf_66 : decode cX6_valueOf 66 = .ok (.ireturn, 1) := by decide +kernel
theorem dX6_valueOf_67 : decode cX6_valueOf 67 = .ok (.aload_n 0, 1) := by decide +kernel
theorem dX6_valueOf_68 : decode cX6_valueOf 68 = .ok (.getfield 49, 3) := by decide +kernel
theorem dX6_valueOf_71 : decode cX6_valueOf 71 = .ok (.ireturn, 1) := by decide +kernel
theorem dX6_valueOf_72 : decode cX6_valueOf 72 = .ok (.aload_n 0, 1) := by decide +kernel
theorem dX6_valueOf_73 : decode cX6_valueOf 73 = .ok (.getfield 52, 3) := by decide +kernel
theorem dX6_valueOf_76 : decode cX6_valueOf 76 = .ok (.ireturn, 1) := by decide +kernel
theorem dX6_number_0 : decode cX6_number 0 = .ok (.iconst 0, 1) := by decide +kernel
theorem dX6_number_1 : decode cX6_number 1 = .ok (.istore_n 1, 1) := by decide +kernel
theorem dX6_number_2 : decode cX6_number 2 = .ok (.iconst 0, 1) := by decide +kernel
theorem dX6_number_3 : decode cX6_number 3 = .ok (.istore_n 2, 1) := by decide +kernel
theorem dX6_number_4 : decode cX6_number 4 = .ok (.iconst 0, 1) := by decide +kernel
theorem dX6_number_5 : decode cX6_number 5 = .ok (.istore_n 3, 1) := by decide +kernel
theorem dX6_number_6 : decode cX6_number 6 = .ok (.iload_n 3, 1) := by decide +kernel
theorem dX6_number_7 : decode cX6_number 7 = .ok (.iconst 2, 1) := by decide +kernel
theorem dX6_number_8 : decode cX6_number 8 = .ok (.if_icmp .ge 105, 3) := by decide +kernel
theorem dX6_number_11 : decode cX6_number 11 = .ok (.aload_n 0, 1) := by decide +kernel
theorem dX6_number_12 : decode cX6_number 12 = .ok (.getfield 30, 3) := by decide +kernel
theorem dX6_number_15 : decode cX6_number 15 = .ok (.ifCond .ne 98, 3) := by decide +kernel
theorem dX6_number_18 : decode cX6_number 18 = .ok (.aload_n 0, 1) := by decide +kernel
theorem dX6_number_19 : decode cX6_number 19 = .ok (.getfield 34, 3) := by decide +kernel
theorem dX6_number_22 : decode cX6_number 22 = .ok (.aload_n 0, 1) := by decide +kernel
theorem dX6_number_23 : decode cX6_number 23 = .ok (.getfield 58, 3) := by decide +kernel
theorem dX6_number_26 : decode cX6_number 26 = .ok (.if_icmp .ge 87, 3) := by decide +kernel
theorem dX6_number_29 : decode cX6_number 29 = .ok (.aload_n 0, 1) := by decide +kernel
theorem dX6_number_30 : decode cX6_number 30 = .ok (.getfield 55, 3) := by decide +kernel
theorem dX6_number_33 : decode cX6_number 33 = .ok (.aload_n 0, 1) := by decide +kernel
theorem dX6_number_34 : decode cX6_number 34 = .ok (.getfield 34, 3) := by decide +kernel
theorem dX6_number_37 : decode cX6_number 37 = .ok (.iadd, 1) := by decide +kernel
theorem dX6_number_38 : decode cX6_number 38 = .ok (.istore 4, 2) := by decide +kernel
theorem dX6_number_40 : decode cX6_number 40 = .ok (.iload 4, 2) := by decide +kernel
theorem dX6_number_42 : decode cX6_number 42 = .ok (.ifCond .lt 26, 3) := by decide +kernel
theorem dX6_number_45 : decode cX6_number 45 = .ok (.iload 4, 2) := by decide +kernel
theorem dX6_number_47 : decode cX6_number 47 = .ok (.aload_n 0, 1) := by decide +kernel
theorem dX6_number_48 : decode cX6_number 48 = .ok (.getfield 11, 3) := by decide +kernel
theorem dX6_number_51 : decode cX6_number 51 = .ok (.arraylength, 1) := by decide +kernel
theorem dX6_number_52 : decode cX6_number 52 = .ok (.if_icmp .ge 16, 3) := by decide +kernel
theorem dX6_number_55 : decode cX6_number 55 = .ok (.aload_n 0, 1) := by decide +kernel
theorem dX6_number_56 : decode cX6_number 56 = .ok (.getfield 11, 3) := by decide +kernel
theorem dX6_number_59 : decode cX6_number 59 = .ok (.iload 4, 2) := by decide +kernel
theorem dX6_number_61 : decode cX6_number 61 = .ok (.baload, 1) := by decide +kernel
theorem dX6_number_62 : decode cX6_number 62 = .ok (.bipush 48, 2) := by decide +kernel
theorem dX6_number_64 : decode cX6_number 64 = .ok (.isub, 1) := by decide +kernel
theorem dX6_number_65 : decode cX6_number 65 = .ok (.goto 4, 3) := by decide +kernel
theorem dX6_number_68 : decode cX6_number 68 = .ok (.iconst (-1), 1) := by decide +kernel
theorem dX6_number_69 : decode cX6_number 69 = .ok (.istore 5, 2) := by decide +kernel
theorem dX6_number_71 : decode cX6_number 71 = .ok (.iload 5, 2) := by decide +kernel
theorem dX6_number_73 : decode cX6_number 73 = .ok (.ifCond .lt 40, 3) := by decide +kernel
theorem dX6_number_76 : decode cX6_number 76 = .ok (.iload 5, 2) := by decide +kernel
theorem dX6_number_78 : decode cX6_number 78 = .ok (.bipush 9, 2) := by decide +kernel
theorem dX6_number_80 : decode cX6_number 80 = .ok (.if_icmp .le 6, 3) := by decide +kernel
theorem dX6_number_83 : decode cX6_number 83 = .ok (.goto 30, 3) := by decide +kernel
theorem dX6_number_86 : decode cX6_number 86 = .ok (.bipush 10, 2) := by decide +kernel
theorem dX6_number_88 : decode cX6_number 88 = .ok (.iload_n 1, 1) := by decide +kernel
theorem dX6_number_89 : decode cX6_number 89 = .ok (.imul, 1) := by decide +kernel
theorem dX6_number_90 : decode cX6_number 90 = .ok (.iload 5, 2) := by decide +kernel
theorem dX6_number_92 : decode cX6_number 92 = .ok (.iadd, 1) := by decide +kernel
theorem dX6_number_93 : decode cX6_number 93 = .ok (.istore_n 1, 1) := by decide +kernel
theorem dX6_number_94 : decode cX6_number 94 = .ok (.aload_n 0, 1) := by decide +kernel
theorem dX6_number_95 : decode cX6_number 95 = .ok (.dup, 1) := by decide +kernel
theorem dX6_number_96 : decode cX6_number 96 = .ok (.getfield 34, 3) := by decide +kernel
theorem dX6_number_99 : decode cX6_number 99 = .ok (.iconst 1, 1) := by decide +kernel
theorem dX6_number_100 : decode cX6_number 100 = .ok (.iadd, 1) := by decide +kernel
theorem dX6_number_101 : decode cX6_number 101 = .ok (.putfield 34, 3) := by decide +kernel
theorem dX6_number_104 : decode cX6_number 104 = .ok (.iinc 2 1, 3) := by decide +kernel
theorem dX6_number_107 : decode cX6_number 107 = .ok (.iinc 3 1, 3) := by decide +kernel
theorem dX6_number_110 : decode cX6_number 110 = .ok (.goto (-104), 3) := by decide +kernel
theorem dX6_number_113 : decode cX6_number 113 = .ok (.iload_n 2, 1) := by decide +kernel
theorem dX6_number_114 : decode cX6_number 114 = .ok (.ifCond .ne 8, 3) := by decide +kernel
theorem dX6_number_117 : decode cX6_number 117 = .ok (.aload_n 0, 1) := by decide +kernel
theorem dX6_number_118 : decode cX6_number 118 = .ok (.iconst 1, 1) := by decide +kernel
theorem dX6_number_119 : decode cX6_number 119 = .ok (.putfield 30, 3) := by decide +kernel
theorem dX6_number_122 : decode cX6_number 122 = .ok (.iload_n 1, 1) := by decide +kernel
theorem dX6_number_123 : decode cX6_number 123 = .ok (.ireturn, 1) := by decide +kernel
theorem dX6_word_0 : decode cX6_word 0 = .ok (.iconst 0, 1) := by decide +kernel
theorem dX6_word_1 : decode cX6_word 1 = .ok (.istore_n 2, 1) := by decide +kernel
theorem dX6_word_2 : decode cX6_word 2 = .ok (.iload_n 2, 1) := by decide +kernel
theorem dX6_word_3 : decode cX6_word 3 = .ok (.aload_n 1, 1) := by decide +kernel
theorem dX6_word_4 : decode cX6_word 4 = .ok (.invokevirtual 112, 3) := by decide +kernel
theorem dX6_word_7 : decode cX6_word 7 = .ok (.if_icmp .ge 46, 3) := by decide +kernel
theorem dX6_word_10 : decode cX6_word 10 = .ok (.aload_n 0, 1) := by decide +kernel
theorem dX6_word_11 : decode cX6_word 11 = .ok (.getfield 30, 3) := by decide +kernel
theorem dX6_word_14 : decode cX6_word 14 = .ok (.ifCond .ne 39, 3) := by decide +kernel
theorem dX6_word_17 : decode cX6_word 17 = .ok (.aload_n 0, 1) := by decide +kernel
theorem dX6_word_18 : decode cX6_word 18 = .ok (.invokevirtual 64, 3) := by decide +kernel
theorem dX6_word_21 : decode cX6_word 21 = .ok (.aload_n 1, 1) := by decide +kernel
theorem dX6_word_22 : decode cX6_word 22 = .ok (.iload_n 2, 1) := by decide +kernel
theorem dX6_word_23 : decode cX6_word 23 = .ok (.invokevirtual 116, 3) := by decide +kernel
theorem dX6_word_26 : decode cX6_word 26 = .ok (.if_icmp .ne 16, 3) := by decide +kernel
theorem dX6_word_29 : decode cX6_word 29 = .ok (.aload_n 0, 1) := by decide +kernel
theorem dX6_word_30 : decode cX6_word 30 = .ok (.dup, 1) := by decide +kernel
theorem dX6_word_31 : decode cX6_word 31 = .ok (.getfield 34, 3) := by decide +kernel
theorem dX6_word_34 : decode cX6_word 34 = .ok (.iconst 1, 1) := by decide +kernel
theorem dX6_word_35 : decode cX6_word 35 = .ok (.iadd, 1) := by decide +kernel
theorem dX6_word_36 : decode cX6_word 36 = .ok (.putfield 34, 3) := by decide +kernel
theorem dX6_word_39 : decode cX6_word 39 = .ok (.goto 8, 3) := by decide +kernel
theorem dX6_word_42 : decode cX6_word 42 = .ok (.aload_n 0, 1) := by decide +kernel
theorem dX6_word_43 : decode cX6_word 43 = .ok (.invokevirtual 106, 3) := by decide +kernel
theorem dX6_word_46 : decode cX6_word 46 = .ok (.pop, 1) := by decide +kernel
theorem dX6_word_47 : decode cX6_word 47 = .ok (.iinc 2 1, 3) := by decide +kernel
theorem dX6_word_50 : decode cX6_word 50 = .ok (.goto (-48), 3) := by decide +kernel
theorem dX6_word_53 : decode cX6_word 53 = .ok (.return_, 1) := by decide +kernel
theorem dX6_fail_0 : decode cX6_fail 0 = .ok (.aload_n 0, 1) := by decide +kernel
theorem dX6_fail_1 : decode cX6_fail 1 = .ok (.iconst 1, 1) := by decide +kernel
theorem dX6_fail_2 : decode cX6_fail 2 = .ok (.putfield 30, 3) := by decide +kernel
theorem dX6_fail_5 : decode cX6_fail 5 = .ok (.iconst 0, 1) := by decide +kernel
theorem dX6_fail_6 : decode cX6_fail 6 = .ok (.ireturn, 1) := by decide +kernel
theorem dX6_sign_0 : decode cX6_sign 0 = .ok (.aload_n 0, 1) := by decide +kernel
theorem dX6_sign_1 : decode cX6_sign 1 = .ok (.getfield 55, 3) := by decide +kernel
theorem dX6_sign_4 : decode cX6_sign 4 = .ok (.aload_n 0, 1) := by decide +kernel
theorem dX6_sign_5 : decode cX6_sign 5 = .ok (.getfield 34, 3) := by decide +kernel
theorem dX6_sign_8 : decode cX6_sign 8 = .ok (.iadd, 1) := by decide +kernel
theorem dX6_sign_9 : decode cX6_sign 9 = .ok (.istore_n 1, 1) := by decide +kernel
theorem dX6_sign_10 : decode cX6_sign 10 = .ok (.aload_n 0, 1) := by decide +kernel
theorem dX6_sign_11 : decode cX6_sign 11 = .ok (.getfield 30, 3) := by decide +kernel
theorem dX6_sign_14 : decode cX6_sign 14 = .ok (.ifCond .ne 36, 3) := by decide +kernel
theorem dX6_sign_17 : decode cX6_sign 17 = .ok (.aload_n 0, 1) := by decide +kernel
theorem dX6_sign_18 : decode cX6_sign 18 = .ok (.getfield 34, 3) := by decide +kernel
theorem dX6_sign_21 : decode cX6_sign 21 = .ok (.aload_n 0, 1) := by decide +kernel
theorem dX6_sign_22 : decode cX6_sign 22 = .ok (.getfield 58, 3) := by decide +kernel
theorem dX6_sign_25 : decode cX6_sign 25 = .ok (.if_icmp .ge 25, 3) := by decide +kernel
theorem dX6_sign_28 : decode cX6_sign 28 = .ok (.iload_n 1, 1) := by decide +kernel
theorem dX6_sign_29 : decode cX6_sign 29 = .ok (.ifCond .lt 21, 3) := by decide +kernel
theorem dX6_sign_32 : decode cX6_sign 32 = .ok (.iload_n 1, 1) := by decide +kernel
theorem dX6_sign_33 : decode cX6_sign 33 = .ok (.aload_n 0, 1) := by decide +kernel
theorem dX6_sign_34 : decode cX6_sign 34 = .ok (.getfield 11, 3) := by decide +kernel
theorem dX6_sign_37 : decode cX6_sign 37 = .ok (.arraylength, 1) := by decide +kernel
theorem dX6_sign_38 : decode cX6_sign 38 = .ok (.if_icmp .ge 12, 3) := by decide +kernel
theorem dX6_sign_41 : decode cX6_sign 41 = .ok (.aload_n 0, 1) := by decide +kernel
theorem dX6_sign_42 : decode cX6_sign 42 = .ok (.getfield 11, 3) := by decide +kernel
theorem dX6_sign_45 : decode cX6_sign 45 = .ok (.iload_n 1, 1) := by decide +kernel
theorem dX6_sign_46 : decode cX6_sign 46 = .ok (.baload, 1) := by decide +kernel
theorem dX6_sign_47 : decode cX6_sign 47 = .ok (.goto 4, 3) := by decide +kernel
theorem dX6_sign_50 : decode cX6_sign 50 = .ok (.iconst (-1), 1) := by decide +kernel
theorem dX6_sign_51 : decode cX6_sign 51 = .ok (.ireturn, 1) := by decide +kernel
theorem dX7_init_0 : decode cX7_init 0 = .ok (.aload_n 0, 1) := by decide +kernel
theorem dX7_init_1 : decode cX7_init 1 = .ok (.invokespecial 3, 3) := by decide +kernel
theorem dX7_init_4 : decode cX7_init 4 = .ok (.aload_n 0, 1) := by decide +kernel
theorem dX7_init_5 : decode cX7_init 5 = .ok (.bipush 16, 2) := by decide +kernel
theorem dX7_init_7 : decode cX7_init 7 = .ok (.newarray .int, 2) := by decide +kernel
theorem dX7_init_9 : decode cX7_init 9 = .ok (.putfield 9, 3) := by decide +kernel
theorem dX7_init_12 : decode cX7_init 12 = .ok (.aload_n 0, 1) := by decide +kernel
theorem dX7_init_13 : decode cX7_init 13 = .ok (.bipush 16, 2) := by decide +kernel
theorem dX7_init_15 : decode cX7_init 15 = .ok (.newarray .int, 2) := by decide +kernel
theorem dX7_init_17 : decode cX7_init 17 = .ok (.putfield 15, 3) := by decide +kernel
theorem dX7_init_20 : decode cX7_init 20 = .ok (.return_, 1) := by decide +kernel
theorem dX7_walk_0 : decode cX7_walk 0 = .ok (.iload_n 3, 1) := by decide +kernel
theorem dX7_walk_1 : decode cX7_walk 1 = .ok (.iload_n 1, 1) := by decide +kernel
theorem dX7_walk_2 : decode cX7_walk 2 = .ok (.invokestatic 18, 3) := by decide +kernel
theorem dX7_walk_5 : decode cX7_walk 5 = .ok (.ifCond .eq 11, 3) := by decide +kernel
theorem dX7_walk_8 : decode cX7_walk 8 = .ok (.iload_n 3, 1) := by decide +kernel
theorem dX7_walk_9 : decode cX7_walk 9 = .ok (.iload_n 2, 1) := by decide +kernel
theorem dX7_walk_10 : decode cX7_walk 10 = .ok (.invokestatic 18, 3) := by decide +kernel
theorem dX7_walk_13 : decode cX7_walk 13 = .ok (.ifCond .ne 5, 3) := by decide +kernel
theorem dX7_walk_16 : decode cX7_walk 16 = .ok (.iconst 0, 1) := by decide +kernel
theorem dX7_walk_17 : decode cX7_walk 17 = .ok (.ireturn, 1) := by decide +kernel
theorem dX7_walk_18 : decode cX7_walk 18 = .ok (.iconst 0, 1) := by decide +kernel
theorem dX7_walk_19 : decode cX7_walk 19 = .ok (.istore 4, 2) := by decide +kernel
theorem dX7_walk_21 : decode cX7_walk 21 = .ok (.iconst 1, 1) := by decide +kernel
theorem dX7_walk_22 : decode cX7_walk 22 = .ok (.iload_n 2, 1) := by decide +kernel
theorem dX7_walk_23 : decode cX7_walk 23 = .ok (.ishl, 1) := by decide +kernel
theorem dX7_walk_24 : decode cX7_walk 24 = .ok (.istore 5, 2) := by decide +kernel
theorem dX7_walk_26 : decode cX7_walk 26 = .ok (.aload_n 0, 1) := by decide +kernel
theorem dX7_walk_27 : decode cX7_walk 27 = .ok (.getfield 9, 3) := by decide +kernel
theorem dX7_walk_30 : decode cX7_walk 30 = .ok (.iconst 0, 1) := by decide +kernel
theorem dX7_walk_31 : decode cX7_walk 31 = .ok (.iload 5, 2) := by decide +kernel
theorem dX7_walk_33 : decode cX7_walk 33 = .ok (.iastore, 1) := by decide +kernel
theorem dX7_walk_34 : decode cX7_walk 34 = .ok (.iload 4, 2) := by decide +kernel
theorem dX7_walk_36 : decode cX7_walk 36 = .ok (.bipush 15, 2) := by decide +kernel
theorem dX7_walk_38 : decode cX7_walk 38 = .ok (.if_icmp .ge 53, 3) := by decide +kernel
theorem dX7_walk_41 : decode cX7_walk 41 = .ok (.iload 5, 2) := by decide +kernel
theorem dX7_walk_43 : decode cX7_walk 43 = .ok (.iload_n 1, 1) := by decide +kernel
theorem dX7_walk_44 : decode cX7_walk 44 = .ok (.invokestatic 18, 3) := by decide +kernel
theorem dX7_walk_47 : decode cX7_walk 47 = .ok (.ifCond .ne 44, 3) := by decide +kernel
theorem dX7_walk_50 : decode cX7_walk 50 = .ok (.aload_n 0, 1) := by decide +kernel
theorem dX7_walk_51 : decode cX7_walk 51 = .ok (.getfield 9, 3) := by decide +kernel
theorem dX7_walk_54 : decode cX7_walk 54 = .ok (.iload 4, 2) := by decide +kernel
theorem dX7_walk_56 : decode cX7_walk 56 = .ok (.iaload, 1) := by decide +kernel
theorem dX7_walk_57 : decode cX7_walk 57 = .ok (.invokestatic 24, 3) := by decide +kernel
theorem dX7_walk_60 : decode cX7_walk 60 = .ok (.iload_n 3, 1) := by decide +kernel
theorem dX7_walk_61 : decode cX7_walk 61 = .ok (.iand, 1) := by decide +kernel
theorem dX7_walk_62 : decode cX7_walk 62 = .ok (.iload 5, 2) := by decide +kernel
theorem dX7_walk_64 : decode cX7_walk 64 = .ok (.iconst (-1), 1) := by decide +kernel
theorem dX7_walk_65 : decode cX7_walk 65 = .ok (.ixor, 1) := by decide +kernel
theorem dX7_walk_66 : decode cX7_walk 66 = .ok (.iand, 1) := by decide +kernel
theorem dX7_walk_67 : decode cX7_walk 67 = .ok (.istore 6, 2) := by decide +kernel
theorem dX7_walk_69 : decode cX7_walk 69 = .ok (.iinc 4 1, 3) := by decide +kernel
theorem dX7_walk_72 : decode cX7_walk 72 = .ok (.aload_n 0, 1) := by decide +kernel
theorem dX7_walk_73 : decode cX7_walk 73 = .ok (.getfield 9, 3) := by decide +kernel
theorem dX7_walk_76 : decode cX7_walk 76 = .ok (.iload 4, 2) := by decide +kernel
theorem dX7_walk_78 : decode cX7_walk 78 = .ok (.iload 6, 2) := by decide +kernel
theorem dX7_walk_80 : decode cX7_walk 80 = .ok (.iastore, 1) := by decide +kernel
theorem dX7_walk_81 : decode cX7_walk 81 = .ok (.iload 5, 2) := by decide +kernel
theorem dX7_walk_83 : decode cX7_walk 83 = .ok (.iload 6, 2) := by decide +kernel
theorem dX7_walk_85 : decode cX7_walk 85 = .ok (.ior, 1) := by decide +kernel
theorem dX7_walk_86 : decode cX7_walk 86 = .ok (.istore 5, 2) := by decide +kernel
theorem dX7_walk_88 : decode cX7_walk 88 = .ok (.goto (-54), 3) := by decide +kernel
theorem dX7_walk_91 : decode cX7_walk 91 = .ok (.iload 5, 2) := by decide +kernel
theorem dX7_walk_93 : decode cX7_walk 93 = .ok (.iload_n 1, 1) := by decide +kernel
theorem dX7_walk_94 : decode cX7_walk 94 = .ok (.invokestatic 18, 3) := by decide +kernel
theorem dX7_walk_97 : decode cX7_walk 97 = .ok (.ifCond .ne 5, 3) := by decide +kernel
theorem dX7_walk_100 : decode cX7_walk 100 = .ok (.iconst 0, 1) := by decide +kernel
theorem dX7_walk_101 : decode cX7_walk 101 = .ok (.ireturn, 1) := by decide +kernel
theorem dX7_walk_102 : decode cX7_walk 102 = .ok (.aload_n 0, 1) := by decide +kernel
theorem dX7_walk_103 : decode cX7_walk 103 = .ok (.getfield 15, 3) := by decide +kernel
theorem dX7_walk_106 : decode cX7_walk 106 = .ok (.iconst 0, 1) := by decide +kernel
theorem dX7_walk_107 : decode cX7_walk 107 = .ok (.iload_n 1, 1) := by decide +kernel
theorem dX7_walk_108 : decode cX7_walk 108 = .ok (.iastore, 1) := by decide +kernel
theorem dX7_walk_109 : decode cX7_walk 109 = .ok (.iconst 1, 1) := by decide +kernel
theorem dX7_walk_110 : decode cX7_walk 110 = .ok (.istore 6, 2) := by decide +kernel
theorem dX7_walk_112 : decode cX7_walk 112 = .ok (.iload 6, 2) := by decide +kernel
theorem dX7_walk_114 : decode cX7_walk 114 = .ok (.iload 4, 2) := by decide +kernel
theorem dX7_walk_116 : decode cX7_walk 116 = .ok (.if_icmp .gt 44, 3) := by decide +kernel
theorem dX7_walk_119 : decode cX7_walk 119 = .ok (.aload_n 0, 1) := by decide +kernel
theorem dX7_walk_120 : decode cX7_walk 120 = .ok (.getfield 15, 3) := by decide +kernel
theorem dX7_walk_123 : decode cX7_walk 123 = .ok (.iload 6, 2) := by decide +kernel
theorem dX7_walk_125 : decode cX7_walk 125 = .ok (.iconst 1, 1) := by decide +kernel
theorem dX7_walk_126 : decode cX7_walk 126 = .ok (.aload_n 0, 1) := by decide +kernel
theorem dX7_walk_127 : decode cX7_walk 127 = .ok (.getfield 15, 3) := by decide +kernel
theorem dX7_walk_130 : decode cX7_walk 130 = .ok (.iload 6, 2) := by decide +kernel
theorem dX7_walk_132 : decode cX7_walk 132 = .ok (.iconst 1, 1) := by decide +kernel
theorem dX7_walk_133 : decode cX7_walk 133 = .ok (.isub, 1) := by decide +kernel
theorem dX7_walk_134 : decode cX7_walk 134 = .ok (.iaload, 1) := by decide +kernel
theorem dX7_walk_135 : decode cX7_walk 135 = .ok (.ishl, 1) := by decide +kernel
theorem dX7_walk_136 : decode cX7_walk 136 = .ok (.invokestatic 24, 3) := by decide +kernel
theorem dX7_walk_139 : decode cX7_walk 139 = .ok (.aload_n 0, 1) := by decide +kernel
theorem dX7_walk_140 : decode cX7_walk 140 = .ok (.getfield 9, 3) := by decide +kernel
theorem dX7_walk_143 : decode cX7_walk 143 = .ok (.iload 4, 2) := by decide +kernel
theorem dX7_walk_145 : decode cX7_walk 145 = .ok (.iload 6, 2) := by decide +kernel
theorem dX7_walk_147 : decode cX7_walk 147 = .ok (.isub, 1) := by decide +kernel
theorem dX7_walk_148 : decode cX7_walk 148 = .ok (.iaload, 1) := by decide +kernel
theorem dX7_walk_149 : decode cX7_walk 149 = .ok (.iand, 1) := by decide +kernel
theorem dX7_walk_150 : decode cX7_walk 150 = .ok (.invokestatic 28, 3) := by decide +kernel
theorem dX7_walk_153 : decode cX7_walk 153 = .ok (.iastore, 1) := by decide +kernel
theorem dX7_walk_154 : decode cX7_walk 154 = .ok (.iinc 6 1, 3) := by decide +kernel
theorem dX7_walk_157 : decode cX7_walk 157 = .ok (.goto (-45), 3) := by decide +kernel
theorem dX7_walk_160 : decode cX7_walk 160 = .ok (.iload 4, 2) := by decide +kernel
theorem dX7_walk_162 : decode cX7_walk 162 = .ok (.iconst 1, 1) := by decide +kernel
theorem dX7_walk_163 : decode cX7_walk 163 = .ok (.iadd, 1) := by decide +kernel
theorem dX7_walk_164 : decode cX7_walk 164 = .ok (.ireturn, 1) := by decide +kernel
theorem dX7_cellsOf_0 : decode cX7_cellsOf 0 = .ok (.iconst 0, 1) := by decide +kernel
theorem dX7_cellsOf_1 : decode cX7_cellsOf 1 = .ok (.istore_n 2, 1) := by decide +kernel
theorem dX7_cellsOf_2 : decode cX7_cellsOf 2 = .ok (.iconst 0, 1) := by decide +kernel
theorem dX7_cellsOf_3 : decode cX7_cellsOf 3 = .ok (.istore_n 3, 1) := by decide +kernel
theorem dX7_cellsOf_4 : decode cX7_cellsOf 4 = .ok (.iload_n 3, 1) := by decide +kernel
theorem dX7_cellsOf_5 : decode cX7_cellsOf 5 = .ok (.iload_n 1, 1) := by decide +kernel
theorem dX7_cellsOf_6 : decode cX7_cellsOf 6 = .ok (.if_icmp .ge 26, 3) := by decide +kernel
theorem dX7_cellsOf_9 : decode cX7_cellsOf 9 = .ok (.iload_n 3, 1) := by decide +kernel
theorem dX7_cellsOf_10 : decode cX7_cellsOf 10 = .ok (.bipush 16, 2) := by decide +kernel
theorem dX7_cellsOf_12 : decode cX7_cellsOf 12 = .ok (.if_icmp .ge 20, 3) := by decide +kernel
theorem dX7_cellsOf_15 : decode cX7_cellsOf 15 = .ok (.iload_n 2, 1) := by decide +kernel
theorem dX7_cellsOf_16 : decode cX7_cellsOf 16 = .ok (.iconst 1, 1) := by decide +kernel
theorem dX7_cellsOf_17 : decode cX7_cellsOf 17 = .ok (.aload_n 0, 1) := by decide +kernel
theorem dX7_cellsOf_18 : decode cX7_cellsOf 18 = .ok (.getfield 15, 3) := by decide +kernel
theorem dX7_cellsOf_21 : decode cX7_cellsOf 21 = .ok (.iload_n 3, 1) := by decide +kernel
theorem dX7_cellsOf_22 : decode cX7_cellsOf 22 = .ok (.iaload, 1) := by decide +kernel
theorem dX7_cellsOf_23 : decode cX7_cellsOf 23 = .ok (.ishl, 1) := by decide +kernel
theorem dX7_cellsOf_24 : decode cX7_cellsOf 24 = .ok (.ior, 1) := by decide +kernel
theorem dX7_cellsOf_25 : decode cX7_cellsOf 25 = .ok (.istore_n 2, 1) := by decide +kernel
theorem dX7_cellsOf_26 : decode cX7_cellsOf 26 = .ok (.iinc 3 1, 3) := by decide +kernel
theorem dX7_cellsOf_29 : decode cX7_cellsOf 29 = .ok (.goto (-25), 3) := by decide +kernel
theorem dX7_cellsOf_32 : decode cX7_cellsOf 32 = .ok (.iload_n 2, 1) := by decide +kernel
theorem dX7_cellsOf_33 : decode cX7_cellsOf 33 = .ok (.ireturn, 1) := by decide +kernel
theorem dX7_cellAt_0 : decode cX7_cellAt 0 = .ok (.iload_n 1, 1) := by decide +kernel
theorem dX7_cellAt_1 : decode cX7_cellAt 1 = .ok (.ifCond .lt 23, 3) := by decide +kernel
theorem dX7_cellAt_4 : decode cX7_cellAt 4 = .ok (.iload_n 1, 1) := by decide +kernel
theorem dX7_cellAt_5 : decode cX7_cellAt 5 = .ok (.iload_n 2, 1) := by decide +kernel
theorem dX7_cellAt_6 : decode cX7_cellAt 6 = .ok (.if_icmp .ge 18, 3) := by decide +kernel
theorem dX7_cellAt_9 : decode cX7_cellAt 9 = .ok (.iload_n 1, 1) := by decide +kernel
theorem dX7_cellAt_10 : decode cX7_cellAt 10 = .ok (.bipush 16, 2) := by decide +kernel
theorem dX7_cellAt_12 : decode cX7_cellAt 12 = .ok (.if_icmp .ge 12, 3) := by decide +kernel
theorem dX7_cellAt_15 : decode cX7_cellAt 15 = .ok (.aload_n 0, 1) := by decide +kernel
theorem dX7_cellAt_16 : decode cX7_cellAt 16 = .ok (.getfield 15, 3) := by decide +kernel
theorem dX7_cellAt_19 : decode cX7_cellAt 19 = .ok (.iload_n 1, 1) := by decide +kernel
theorem dX7_cellAt_20 : decode cX7_cellAt 20 = .ok (.iaload, 1) := by decide +kernel
theorem dX7_cellAt_21 : decode cX7_cellAt 21 = .ok (.goto 5, 3) := by decide +kernel
theorem dX7_cellAt_24 : decode cX7_cellAt 24 = .ok (.bipush (-5), 2) := by decide +kernel
theorem dX7_cellAt_26 : decode cX7_cellAt 26 = .ok (.ireturn, 1) := by decide +kernel
theorem dX8_init_0 : decode cX8_init 0 = .ok (.aload_n 0, 1) := by decide +kernel
theorem dX8_init_1 : decode cX8_init 1 = .ok (.invokespecial 1, 3) := by decide +kernel
theorem dX8_init_4 : decode cX8_init 4 = .ok (.aload_n 0, 1) := by decide +kernel
theorem dX8_init_5 : decode cX8_init 5 = .ok (.sipush 360, 3) := by decide +kernel
theorem dX8_init_8 : decode cX8_init 8 = .ok (.newarray .long, 2) := by decide +kernel
theorem dX8_init_10 : decode cX8_init 10 = .ok (.putfield 9, 3) := by decide +kernel
theorem dX8_init_13 : decode cX8_init 13 = .ok (.aload_n 0, 1) := by decide +kernel
theorem dX8_init_14 : decode cX8_init 14 = .ok (.bipush 6, 2) := by decide +kernel
theorem dX8_init_16 : decode cX8_init 16 = .ok (.newarray .int, 2) := by decide +kernel
theorem dX8_init_18 : decode cX8_init 18 = .ok (.dup, 1) := by decide +kernel
theorem dX8_init_19 : decode cX8_init 19 = .ok (.iconst 0, 1) := by decide +kernel
theorem dX8_init_20 : decode cX8_init 20 = .ok (.iconst (-1), 1) := by decide +kernel
theorem dX8_init_21 : decode cX8_init 21 = .ok (.iastore, 1) := by decide +kernel
theorem dX8_init_22 : decode cX8_init 22 = .ok (.dup, 1) := by decide +kernel
theorem dX8_init_23 : decode cX8_init 23 = .ok (.iconst 1, 1) := by decide +kernel
theorem dX8_init_24 : decode cX8_init 24 = .ok (.iconst (-1), 1) := by decide +kernel
theorem dX8_init_25 : decode cX8_init 25 = .ok (.iastore, 1) := by decide +kernel
theorem dX8_init_26 : decode cX8_init 26 = .ok (.dup, 1) := by decide +kernel
theorem dX8_init_27 : decode cX8_init 27 = .ok (.iconst 2, 1) := by decide +kernel
theorem dX8_init_28 : decode cX8_init 28 = .ok (.iconst (-1), 1) := by decide +kernel
theorem dX8_init_29 : decode cX8_init 29 = .ok (.iastore, 1) := by decide +kernel
theorem dX8_init_30 : decode cX8_init 30 = .ok (.dup, 1) := by decide +kernel
theorem dX8_init_31 : decode cX8_init 31 = .ok (.iconst 3, 1) := by decide +kernel
theorem dX8_init_32 : decode cX8_init 32 = .ok (.iconst (-1), 1) := by decide +kernel
theorem dX8_init_33 : decode cX8_init 33 = .ok (.iastore, 1) := by decide +kernel
theorem dX8_init_34 : decode cX8_init 34 = .ok (.dup, 1) := by decide +kernel
theorem dX8_init_35 : decode cX8_init 35 = .ok (.iconst 4, 1) := by decide +kernel
theorem dX8_init_36 : decode cX8_init 36 = .ok (.iconst (-1), 1) := by decide +kernel
theorem dX8_init_37 : decode cX8_init 37 = .ok (.iastore, 1) := by decide +kernel
theorem dX8_init_38 : decode cX8_init 38 = .ok (.dup, 1) := by decide +kernel
theorem dX8_init_39 : decode cX8_init 39 = .ok (.iconst 5, 1) := by decide +kernel
theorem dX8_init_40 : decode cX8_init 40 = .ok (.iconst (-1), 1) := by decide +kernel
theorem dX8_init_41 : decode cX8_init 41 = .ok (.iastore, 1) := by decide +kernel
theorem dX8_init_42 : decode cX8_init 42 = .ok (.putfield 13, 3) := by decide +kernel
theorem dX8_init_45 : decode cX8_init 45 = .ok (.aload_n 0, 1) := by decide +kernel
theorem dX8_init_46 : decode cX8_init 46 = .ok (.bipush 6, 2) := by decide +kernel
theorem dX8_init_48 : decode cX8_init 48 = .ok (.newarray .int, 2) := by decide +kernel
theorem dX8_init_50 : decode cX8_init 50 = .ok (.putfield 17, 3) := by decide +kernel
theorem dX8_init_53 : decode cX8_init 53 = .ok (.return_, 1) := by decide +kernel
theorem dX8_isTape_0 : decode cX8_isTape 0 = .ok (.iload_n 0, 1) := by decide +kernel
theorem dX8_isTape_1 : decode cX8_isTape 1 = .ok (.ifCond .lt 13, 3) := by decide +kernel
theorem dX8_isTape_4 : decode cX8_isTape 4 = .ok (.iload_n 0, 1) := by decide +kernel
theorem dX8_isTape_5 : decode cX8_isTape 5 = .ok (.bipush 6, 2) := by decide +kernel
theorem dX8_isTape_7 : decode cX8_isTape 7 = .ok (.if_icmp .ge 7, 3) := by decide +kernel
theorem dX8_isTape_10 : decode cX8_isTape 10 = .ok (.iconst 1, 1) := by decide +kernel
theorem dX8_isTape_11 : decode cX8_isTape 11 = .ok (.goto 4, 3) := by decide +kernel
theorem dX8_isTape_14 : decode cX8_isTape 14 = .ok (.iconst 0, 1) := by decide +kernel
theorem dX8_isTape_15 : decode cX8_isTape 15 = .ok (.ireturn, 1) := by decide +kernel
theorem dX8_isEmpty_0 : decode cX8_isEmpty 0 = .ok (.aload_n 0, 1) := by decide +kernel
theorem dX8_isEmpty_1 : decode cX8_isEmpty 1 = .ok (.getfield 13, 3) := by decide +kernel
theorem dX8_isEmpty_4 : decode cX8_isEmpty 4 = .ok (.iload_n 1, 1) := by decide +kernel
theorem dX8_isEmpty_5 : decode cX8_isEmpty 5 = .ok (.iaload, 1) := by decide +kernel
theorem dX8_isEmpty_6 : decode cX8_isEmpty 6 = .ok (.iconst (-1), 1) := by decide +kernel
theorem dX8_isEmpty_7 : decode cX8_isEmpty 7 = .ok (.if_icmp .ne 7, 3) := by decide +kernel
theorem dX8_isEmpty_10 : decode cX8_isEmpty 10 = .ok (.iconst 1, 1) := by decide +kernel
theorem dX8_isEmpty_11 : decode cX8_isEmpty 11 = .ok (.goto 4, 3) := by decide +kernel
theorem dX8_isEmpty_14 : decode cX8_isEmpty 14 = .ok (.iconst 0, 1) := by decide +kernel
theorem dX8_isEmpty_15 : decode cX8_isEmpty 15 = .ok (.ireturn, 1) := by decide +kernel
theorem dX8_sortOf_0 : decode cX8_sortOf 0 = .ok (.aload_n 0, 1) := by decide +kernel
theorem dX8_sortOf_1 : decode cX8_sortOf 1 = .ok (.getfield 13, 3) := by decide +kernel
theorem dX8_sortOf_4 : decode cX8_sortOf 4 = .ok (.iload_n 1, 1) := by decide +kernel
theorem dX8_sortOf_5 : decode cX8_sortOf 5 = .ok (.iaload, 1) := by decide +kernel
theorem dX8_sortOf_6 : decode cX8_sortOf 6 = .ok (.ireturn, 1) := by decide +kernel
theorem dX8_hasPlace_0 : decode cX8_hasPlace 0 = .ok (.iload_n 1, 1) := by decide +kernel
theorem dX8_hasPlace_1 : decode cX8_hasPlace 1 = .ok (.invokestatic 20, 3) := by decide +kernel
theorem dX8_hasPlace_4 : decode cX8_hasPlace 4 = .ok (.ifCond .eq 21, 3) := by decide +kernel
theorem dX8_hasPlace_7 : decode cX8_hasPlace 7 = .ok (.iload_n 2, 1) := by decide +kernel
theorem dX8_hasPlace_8 : decode cX8_hasPlace 8 = .ok (.ifCond .lt 17, 3) := by decide +kernel
theorem dX8_hasPlace_11 : decode cX8_hasPlace 11 = .ok (.iload_n 2, 1) := by decide +kernel
theorem dX8_hasPlace_12 : decode cX8_hasPlace 12 = .ok (.aload_n 0, 1) := by decide +kernel
theorem dX8_hasPlace_13 : decode cX8_hasPlace 13 = .ok (.getfield 17, 3) := by decide +kernel
theorem dX8_hasPlace_16 : decode cX8_hasPlace 16 = .ok (.iload_n 1, 1) := by decide +kernel
theorem dX8_hasPlace_17 : decode cX8_hasPlace 17 = .ok (.iaload, 1) := by decide +kernel
theorem dX8_hasPlace_18 : decode cX8_hasPlace 18 = .ok (.if_icmp .ge 7, 3) := by decide +kernel
theorem dX8_hasPlace_21 : decode cX8_hasPlace 21 = .ok (.iconst 1, 1) := by decide +kernel
theorem dX8_hasPlace_22 : decode cX8_hasPlace 22 = .ok (.goto 4, 3) := by decide +kernel
theorem dX8_hasPlace_25 : decode cX8_hasPlace 25 = .ok (.iconst 0, 1) := by decide +kernel
theorem dX8_hasPlace_26 : decode cX8_hasPlace 26 = .ok (.ireturn, 1) := by decide +kernel
theorem dX8_hasStretch_0 : decode cX8_hasStretch 0 = .ok (.iload_n 2, 1) := by decide +kernel
theorem dX8_hasStretch_1 : decode cX8_hasStretch 1 = .ok (.ifCond .lt 33, 3) := by decide +kernel
theorem dX8_hasStretch_4 : decode cX8_hasStretch 4 = .ok (.iload_n 3, 1) := by decide +kernel
theorem dX8_hasStretch_5 : decode cX8_hasStretch 5 = .ok (.ifCond .lt 29, 3) := by decide +kernel
theorem dX8_hasStretch_8 : decode cX8_hasStretch 8 = .ok (.iload_n 2, 1) := by decide +kernel
theorem dX8_hasStretch_9 : decode cX8_hasStretch 9 = .ok (.aload_n 0, 1) := by decide +kernel
theorem dX8_hasStretch_10 : decode cX8_hasStretch 10 = .ok (.getfield 17, 3) := by decide +kernel
theorem dX8_hasStretch_13 : decode cX8_hasStretch 13 = .ok (.iload_n 1, 1) := by decide +kernel
theorem dX8_hasStretch_14 : decode cX8_hasStretch 14 = .ok (.iaload, 1) := by decide +kernel
theorem dX8_hasStretch_15 : decode cX8_hasStretch 15 = .ok (.if_icmp .gt 19, 3) := by decide +kernel
theorem dX8_hasStretch_18 : decode cX8_hasStretch 18 = .ok (.iload_n 3, 1) := by decide +kernel
theorem dX8_hasStretch_19 : decode cX8_hasStretch 19 = .ok (.aload_n 0, 1) := by decide +kernel
theorem dX8_hasStretch_20 : decode cX8_hasStretch 20 = .ok (.getfield 17, 3) := by decide +kernel
theorem dX8_hasStretch_23 : decode cX8_hasStretch 23 = .ok (.iload_n 1, 1) := by decide +kernel
theorem dX8_hasStretch_24 : decode cX8_hasStretch 24 = .ok (.iaload, 1) := by decide +kernel
theorem dX8_hasStretch_25 : decode cX8_hasStretch 25 = .ok (.iload_n 2, 1) := by decide +kernel
theorem dX8_hasStretch_26 : decode cX8_hasStretch 26 = .ok (.isub, 1) := by decide +kernel
theorem dX8_hasStretch_27 : decode cX8_hasStretch 27 = .ok (.if_icmp .gt 7, 3) := by decide +kernel
theorem dX8_hasStretch_30 : decode cX8_hasStretch 30 = .ok (.iconst 1, 1) := by decide +kernel
theorem dX8_hasStretch_31 : decode cX8_hasStretch 31 = .ok (.goto 4, 3) := by decide +kernel
theorem dX8_hasStretch_34 : decode cX8_hasStretch 34 = .ok (.iconst 0, 1) := by decide +kernel
theorem dX8_hasStretch_35 : decode cX8_hasStretch 35 = .ok (.ireturn, 1) := by decide +kernel
theorem dX8_renew_0 : decode cX8_renew 0 = .ok (.aload_n 0, 1) := by decide +kernel
theorem dX8_renew_1 : decode cX8_renew 1 = .ok (.getfield 13, 3) := by decide +kernel
theorem dX8_renew_4 : decode cX8_renew 4 = .ok (.iload_n 1, 1) := by decide +kernel
theorem dX8_renew_5 : decode cX8_renew 5 = .ok (.iload_n 2, 1) := by decide +kernel
theorem dX8_renew_6 : decode cX8_renew 6 = .ok (.iastore, 1) := by decide +kernel
theorem dX8_renew_7 : decode cX8_renew 7 = .ok (.aload_n 0, 1) := by decide +kernel
theorem dX8_renew_8 : decode cX8_renew 8 = .ok (.getfield 17, 3) := by decide +kernel
theorem dX8_renew_11 : decode cX8_renew 11 = .ok (.iload_n 1, 1) := by decide +kernel
theorem dX8_renew_12 : decode cX8_renew 12 = .ok (.iload_n 2, 1) := by decide +kernel
theorem dX8_renew_13 : decode cX8_renew 13 = .ok (.iconst (-1), 1) := by decide +kernel
theorem dX8_renew_14 : decode cX8_renew 14 = .ok (.if_icmp .ne 7, 3) := by decide +kernel
theorem dX8_renew_17 : decode cX8_renew 17 = .ok (.iconst 0, 1) := by decide +kernel
theorem dX8_renew_18 : decode cX8_renew 18 = .ok (.goto 4, 3) := by decide +kernel
theorem dX8_renew_21 : decode cX8_renew 21 = .ok (.iload_n 3, 1) := by decide +kernel
theorem dX8_renew_22 : decode cX8_renew 22 = .ok (.iastore, 1) := by decide +kernel
theorem dX8_renew_23 : decode cX8_renew 23 = .ok (.iconst 0, 1) := by decide +kernel
theorem dX8_renew_24 : decode cX8_renew 24 = .ok (.istore 4, 2) := by decide +kernel
theorem dX8_renew_26 : decode cX8_renew 26 = .ok (.iload 4, 2) := by decide +kernel
theorem dX8_renew_28 : decode cX8_renew 28 = .ok (.bipush 60, 2) := by decide +kernel
theorem dX8_renew_30 : decode cX8_renew 30 = .ok (.if_icmp .ge 22, 3) := by decide +kernel
theorem dX8_renew_33 : decode cX8_renew 33 = .ok (.aload_n 0, 1) := by decide +kernel
theorem dX8_renew_34 : decode cX8_renew 34 = .ok (.getfield 9, 3) := by decide +kernel
theorem dX8_renew_37 : decode cX8_renew 37 = .ok (.iload_n 1, 1) := by decide +kernel
theorem dX8_renew_38 : decode cX8_renew 38 = .ok (.bipush 60, 2) := by decide +kernel
theorem dX8_renew_40 : decode cX8_renew 40 = .ok (.imul, 1) := by decide +kernel
theorem dX8_renew_41 : decode cX8_renew 41 = .ok (.iload 4, 2) := by decide +kernel
theorem dX8_renew_43 : decode cX8_renew 43 = .ok (.iadd, 1) := by decide +kernel
theorem dX8_renew_44 : decode cX8_renew 44 = .ok (.lconst 0, 1) := by decide +kernel
theorem dX8_renew_45 : decode cX8_renew 45 = .ok (.lastore, 1) := by decide +kernel
theorem dX8_renew_46 : decode cX8_renew 46 = .ok (.iinc 4 1, 3) := by decide +kernel
theorem dX8_renew_49 : decode cX8_renew 49 = .ok (.goto (-23), 3) := by decide +kernel
theorem dX8_renew_52 : decode cX8_renew 52 = .ok (.return_, 1) := by decide +kernel
theorem dX8_itemAt_0 : decode cX8_itemAt 0 = .ok (.aload_n 0, 1) := by decide +kernel
theorem dX8_itemAt_1 : decode cX8_itemAt 1 = .ok (.getfield 9, 3) := by decide +kernel
theorem dX8_itemAt_4 : decode cX8_itemAt 4 = .ok (.iload_n 1, 1) := by decide +kernel
theorem dX8_itemAt_5 : decode cX8_itemAt 5 = .ok (.bipush 60, 2) := by decide +kernel
theorem dX8_itemAt_7 : decode cX8_itemAt 7 = .ok (.imul, 1) := by decide +kernel
theorem dX8_itemAt_8 : decode cX8_itemAt 8 = .ok (.iload_n 2, 1) := by decide +kernel
theorem dX8_itemAt_9 : decode cX8_itemAt 9 = .ok (.iadd, 1) := by decide +kernel
theorem dX8_itemAt_10 : decode cX8_itemAt 10 = .ok (.laload, 1) := by decide +kernel
theorem dX8_itemAt_11 : decode cX8_itemAt 11 = .ok (.lreturn, 1) := by decide +kernel
theorem dX8_put_0 : decode cX8_put 0 = .ok (.aload_n 0, 1) := by decide +kernel
theorem dX8_put_1 : decode cX8_put 1 = .ok (.getfield 9, 3) := by decide +kernel
theorem dX8_put_4 : decode cX8_put 4 = .ok (.iload_n 1, 1) := by decide +kernel
theorem dX8_put_5 : decode cX8_put 5 = .ok (.bipush 60, 2) := by decide +kernel
theorem dX8_put_7 : decode cX8_put 7 = .ok (.imul, 1) := by decide +kernel
theorem dX8_put_8 : decode cX8_put 8 = .ok (.iload_n 2, 1) := by decide +kernel
theorem dX8_put_9 : decode cX8_put 9 = .ok (.iadd, 1) := by decide +kernel
theorem dX8_put_10 : decode cX8_put 10 = .ok (.lload_n 3, 1) := by decide +kernel
theorem dX8_put_11 : decode cX8_put 11 = .ok (.aload_n 0, 1) := by decide +kernel
theorem dX8_put_12 : decode cX8_put 12 = .ok (.getfield 13, 3) := by decide +kernel
theorem dX8_put_15 : decode cX8_put 15 = .ok (.iload_n 1, 1) := by decide +kernel
theorem dX8_put_16 : decode cX8_put 16 = .ok (.iaload, 1) := by decide +kernel
theorem dX8_put_17 : decode cX8_put 17 = .ok (.invokestatic 24, 3) := by decide +kernel
theorem dX8_put_20 : decode cX8_put 20 = .ok (.lastore, 1) := by decide +kernel
theorem dX8_put_21 : decode cX8_put 21 = .ok (.return_, 1) := by decide +kernel
theorem dX8_narrowed_0 : decode cX8_narrowed 0 = .ok (.iload_n 2, 1) := by decide +kernel
theorem dX8_narrowed_1 : decode cX8_narrowed 1 = .ok (.tableswitch 61 0 4 #[35, 40, 45, 61, 49], 35) := by decide +kernel
theorem dX8_narrowed_36 : decode cX8_narrowed 36 = .ok (.lload_n 0, 1) := by decide +kernel
theorem dX8_narrowed_37 : decode cX8_narrowed 37 = .ok (.l2i, 1) := by decide +kernel
theorem dX8_narrowed_38 : decode cX8_narrowed 38 = .ok (.i2b, 1) := by decide +kernel
theorem dX8_narrowed_39 : decode cX8_narrowed 39 = .ok (.i2l, 1) := by decide +kernel
theorem dX8_narrowed_40 : decode cX8_narrowed 40 = .ok (.lreturn, 1) := by decide +kernel
theorem dX8_narrowed_41 : decode cX8_narrowed 41 = .ok (.lload_n 0, 1) := by decide +kernel
theorem dX8_narrowed_42 : decode cX8_narrowed 42 = .ok (.l2i, 1) := by decide +kernel
theorem dX8_narrowed_43 : decode cX8_narrowed 43 = .ok (.i2s, 1) := by decide +kernel
theorem dX8_narrowed_44 : decode cX8_narrowed 44 = .ok (.i2l, 1) := by decide +kernel
theorem dX8_narrowed_45 : decode cX8_narrowed 45 = .ok (.lreturn, 1) := by decide +kernel
theorem dX8_narrowed_46 : decode cX8_narrowed 46 = .ok (.lload_n 0, 1) := by decide +kernel
theorem dX8_narrowed_47 : decode cX8_narrowed 47 = .ok (.l2i, 1) := by decide +kernel
theorem dX8_narrowed_48 : decode cX8_narrowed 48 = .ok (.i2l, 1) := by decide +kernel
theorem dX8_narrowed_49 : decode cX8_narrowed 49 = .ok (.lreturn, 1) := by decide +kernel
theorem dX8_narrowed_50 : decode cX8_narrowed 50 = .ok (.lload_n 0, 1) := by decide +kernel
theorem dX8_narrowed_51 : decode cX8_narrowed 51 = .ok (.lconst 0, 1) := by decide +kernel
theorem dX8_narrowed_52 : decode cX8_narrowed 52 = .ok (.lcmp, 1) := by decide +kernel
theorem dX8_narrowed_53 : decode cX8_narrowed 53 = .ok (.ifCond .eq 7, 3) := by decide +kernel
theorem dX8_narrowed_56 : decode cX8_narrowed 56 = .ok (.lconst 1, 1) := by decide +kernel
theorem dX8_narrowed_57 : decode cX8_narrowed 57 = .ok (.goto 4, 3) := by decide +kernel
theorem dX8_narrowed_60 : decode cX8_narrowed 60 = .ok (.lconst 0, 1) := by decide +kernel
theorem dX8_narrowed_61 : decode cX8_narrowed 61 = .ok (.lreturn, 1) := by decide +kernel
theorem dX8_narrowed_62 : decode cX8_narrowed 62 = .ok (.lload_n 0, 1) := by decide +kernel
theorem dX8_narrowed_63 : decode cX8_narrowed 63 = .ok (.lreturn, 1) := by decide +kernel
theorem dX8_copy_0 : decode cX8_copy 0 = .ok (.aload_n 0, 1) := by decide +kernel
theorem dX8_copy_1 : decode cX8_copy 1 = .ok (.getfield 9, 3) := by decide +kernel
theorem dX8_copy_4 : decode cX8_copy 4 = .ok (.iload_n 1, 1) := by decide +kernel
theorem dX8_copy_5 : decode cX8_copy 5 = .ok (.bipush 60, 2) := by decide +kernel
theorem dX8_copy_7 : decode cX8_copy 7 = .ok (.imul, 1) := by decide +kernel
theorem dX8_copy_8 : decode cX8_copy 8 = .ok (.iload_n 2, 1) := by decide +kernel
theorem dX8_copy_9 : decode cX8_copy 9 = .ok (.iadd, 1) := by decide +kernel
theorem dX8_copy_10 : decode cX8_copy 10 = .ok (.aload_n 0, 1) := by decide +kernel
theorem dX8_copy_11 : decode cX8_copy 11 = .ok (.getfield 9, 3) := by decide +kernel
theorem dX8_copy_14 : decode cX8_copy 14 = .ok (.iload_n 3, 1) := by decide +kernel
theorem dX8_copy_15 : decode cX8_copy 15 = .ok (.bipush 60, 2) := by decide +kernel
theorem dX8_copy_17 : decode cX8_copy 17 = .ok (.imul, 1) := by decide +kernel
theorem dX8_copy_18 : decode cX8_copy 18 = .ok (.iload 4, 2) := by decide +kernel
theorem dX8_copy_20 : decode cX8_copy 20 = .ok (.iadd, 1) := by decide +kernel
theorem dX8_copy_21 : decode cX8_copy 21 = .ok (.iload 5, 2) := by decide +kernel
theorem dX8_copy_23 : decode cX8_copy 23 = .ok (.invokestatic 28, 3) := by decide +kernel
theorem dX8_copy_26 : decode cX8_copy 26 = .ok (.return_, 1) := by decide +kernel
theorem dX9_init_0 : decode cX9_init 0 = .ok (.aload_n 0, 1) := by decide +kernel
theorem dX9_init_1 : decode cX9_init 1 = .ok (.invokespecial 3, 3) := by decide +kernel
theorem dX9_init_4 : decode cX9_init 4 = .ok (.aload_n 0, 1) := by decide +kernel
theorem dX9_init_5 : decode cX9_init 5 = .ok (.new 9, 3) := by decide +kernel
theorem dX9_init_8 : decode cX9_init 8 = .ok (.dup, 1) := by decide +kernel
theorem dX9_init_9 : decode cX9_init 9 = .ok (.invokespecial 11, 3) := by decide +kernel
theorem dX9_init_12 : decode cX9_init 12 = .ok (.putfield 12, 3) := by decide +kernel
theorem dX9_init_15 : decode cX9_init 15 = .ok (.aload_n 0, 1) := by decide +kernel
theorem dX9_init_16 : decode cX9_init 16 = .ok (.new 9, 3) := by decide +kernel
theorem dX9_init_19 : decode cX9_init 19 = .ok (.dup, 1) := by decide +kernel
theorem dX9_init_20 : decode cX9_init 20 = .ok (.invokespecial 11, 3) := by decide +kernel
theorem dX9_init_23 : decode cX9_init 23 = .ok (.putfield 18, 3) := by decide +kernel
theorem dX9_init_26 : decode cX9_init 26 = .ok (.aload_n 0, 1) := by decide +kernel
theorem dX9_init_27 : decode cX9_init 27 = .ok (.new 21, 3) := by decide +kernel
theorem dX9_init_30 : decode cX9_init 30 = .ok (.dup, 1) := by decide +kernel
theorem dX9_init_31 : decode cX9_init 31 = .ok (.invokespecial 23, 3) := by decide +kernel
theorem dX9_init_34 : decode cX9_init 34 = .ok (.putfield 24, 3) := by decide +kernel
theorem dX9_init_37 : decode cX9_init 37 = .ok (.aload_n 0, 1) := by decide +kernel
theorem dX9_init_38 : decode cX9_init 38 = .ok (.new 21, 3) := by decide +kernel
theorem dX9_init_41 : decode cX9_init 41 = .ok (.dup, 1) := by decide +kernel
theorem dX9_init_42 : decode cX9_init 42 = .ok (.invokespecial 23, 3) := by decide +kernel
theorem dX9_init_45 : decode cX9_init 45 = .ok (.putfield 28, 3) := by decide +kernel
theorem dX9_init_48 : decode cX9_init 48 = .ok (.aload_n 0, 1) := by decide +kernel
theorem dX9_init_49 : decode cX9_init 49 = .ok (.new 31, 3) := by decide +kernel
theorem dX9_init_52 : decode cX9_init 52 = .ok (.dup, 1) := by decide +kernel
theorem dX9_init_53 : decode cX9_init 53 = .ok (.invokespecial 33, 3) := by decide +kernel
theorem dX9_init_56 : decode cX9_init 56 = .ok (.putfield 34, 3) := by decide +kernel
theorem dX9_init_59 : decode cX9_init 59 = .ok (.aload_n 0, 1) := by decide +kernel
theorem dX9_init_60 : decode cX9_init 60 = .ok (.new 38, 3) := by decide +kernel
theorem dX9_init_63 : decode cX9_init 63 = .ok (.dup, 1) := by decide +kernel
theorem dX9_init_64 : decode cX9_init 64 = .ok (.aload_n 0, 1) := by decide +kernel
theorem dX9_init_65 : decode cX9_init 65 = .ok (.getfield 12, 3) := by decide +kernel
theorem dX9_init_68 : decode cX9_init 68 = .ok (.aload_n 0, 1) := by decide +kernel
theorem dX9_init_69 : decode cX9_init 69 = .ok (.getfield 24, 3) := by decide +kernel
theorem dX9_init_72 : decode cX9_init 72 = .ok (.aload_n 0, 1) := by decide +kernel
theorem dX9_init_73 : decode cX9_init 73 = .ok (.getfield 34, 3) := by decide +kernel
theorem dX9_init_76 : decode cX9_init 76 = .ok (.invokespecial 40, 3) := by decide +kernel
theorem dX9_init_79 : decode cX9_init 79 = .ok (.putfield 43, 3) := by decide +kernel
theorem dX9_init_82 : decode cX9_init 82 = .ok (.aload_n 0, 1) := by decide +kernel
theorem dX9_init_83 : decode cX9_init 83 = .ok (.new 47, 3) := by decide +kernel
theorem dX9_init_86 : decode cX9_init 86 = .ok (.dup, 1) := by decide +kernel
theorem dX9_init_87 : decode cX9_init 87 = .ok (.invokespecial 49, 3) := by decide +kernel
theorem dX9_init_90 : decode cX9_init 90 = .ok (.putfield 50, 3) := by decide +kernel
theorem dX9_init_93 : decode cX9_init 93 = .ok (.aload_n 0, 1) := by decide +kernel
theorem dX9_init_94 : decode cX9_init 94 = .ok (.new 54, 3) := by decide +kernel
theorem dX9_init_97 : decode cX9_init 97 = .ok (.dup, 1) := by decide +kernel
theorem dX9_init_98 : decode cX9_init 98 = .ok (.invokespecial 56, 3) := by decide +kernel
theorem dX9_init_101 : decode cX9_init 101 = .ok (.putfield 57, 3) := by decide +kernel
theorem dX9_init_104 : decode cX9_init 104 = .ok (.return_, 1) := by decide +kernel
theorem dX9_goer_0 : decode cX9_goer 0 = .ok (.iload_n 1, 1) := by decide +kernel
theorem dX9_goer_1 : decode cX9_goer 1 = .ok (.invokestatic 61, 3) := by decide +kernel
theorem dX9_goer_4 : decode cX9_goer 4 = .ok (.ifCond .eq 18, 3) := by decide +kernel
theorem dX9_goer_7 : decode cX9_goer 7 = .ok (.iload_n 3, 1) := by decide +kernel
theorem dX9_goer_8 : decode cX9_goer 8 = .ok (.invokestatic 67, 3) := by decide +kernel
theorem dX9_goer_11 : decode cX9_goer 11 = .ok (.ifCond .eq 11, 3) := by decide +kernel
theorem dX9_goer_14 : decode cX9_goer 14 = .ok (.iload 4, 2) := by decide +kernel
theorem dX9_goer_16 : decode cX9_goer 16 = .ok (.invokestatic 67, 3) := by decide +kernel
theorem dX9_goer_19 : decode cX9_goer 19 = .ok (.ifCond .ne 5, 3) := by decide +kernel
theorem dX9_goer_22 : decode cX9_goer 22 = .ok (.iconst (-1), 1) := by decide +kernel
theorem dX9_goer_23 : decode cX9_goer 23 = .ok (.ireturn, 1) := by decide +kernel
theorem dX9_goer_24 : decode cX9_goer 24 = .ok (.iload_n 2, 1) := by decide +kernel
theorem dX9_goer_25 : decode cX9_goer 25 = .ok (.iconst 0, 1) := by decide +kernel
theorem dX9_goer_26 : decode cX9_goer 26 = .ok (.bipush 9, 2) := by decide +kernel
theorem dX9_goer_28 : decode cX9_goer 28 = .ok (.invokestatic 72, 3) := by decide +kernel
theorem dX9_goer_31 : decode cX9_goer 31 = .ok (.ifCond .ne 6, 3) := by decide +kernel
theorem dX9_goer_34 : decode cX9_goer 34 = .ok (.bipush (-2), 2) := by decide +kernel
theorem dX9_goer_36 : decode cX9_goer 36 = .ok (.ireturn, 1) := by decide +kernel
theorem dX9_goer_37 : decode cX9_goer 37 = .ok (.aload_n 0, 1) := by decide +kernel
theorem dX9_goer_38 : decode cX9_goer 38 = .ok (.getfield 12, 3) := by decide +kernel
theorem dX9_goer_41 : decode cX9_goer 41 = .ok (.getfield 76, 3) := by decide +kernel
theorem dX9_goer_44 : decode cX9_goer 44 = .ok (.bipush 6, 2) := by decide +kernel
theorem dX9_goer_46 : decode cX9_goer 46 = .ok (.if_icmp .lt 6, 3) := by decide +kernel
theorem dX9_goer_49 : decode cX9_goer 49 = .ok (.bipush (-4), 2) := by decide +kernel
theorem dX9_goer_51 : decode cX9_goer 51 = .ok (.ireturn, 1) := by decide +kernel
theorem dX9_goer_52 : decode cX9_goer 52 = .ok (.aload_n 0, 1) := by decide +kernel
theorem dX9_goer_53 : decode cX9_goer 53 = .ok (.getfield 12, 3) := by decide +kernel
theorem dX9_goer_56 : decode cX9_goer 56 = .ok (.iload_n 1, 1) := by decide +kernel
theorem dX9_goer_57 : decode cX9_goer 57 = .ok (.iload_n 2, 1) := by decide +kernel
theorem dX9_goer_58 : decode cX9_goer 58 = .ok (.iload_n 3, 1) := by decide +kernel
theorem dX9_goer_59 : decode cX9_goer 59 = .ok (.iload 4, 2) := by decide +kernel
theorem dX9_goer_61 : decode cX9_goer 61 = .ok (.invokevirtual 80, 3) := by decide +kernel
theorem dX9_goer_64 : decode cX9_goer 64 = .ok (.istore 5, 2) := by decide +kernel
theorem dX9_goer_66 : decode cX9_goer 66 = .ok (.aload_n 0, 1) := by decide +kernel
theorem dX9_goer_67 : decode cX9_goer 67 = .ok (.iload 5, 2) := by decide +kernel
theorem dX9_goer_69 : decode cX9_goer 69 = .ok (.invokevirtual 84, 3) := by decide +kernel
theorem dX9_goer_72 : decode cX9_goer 72 = .ok (.iload 5, 2) := by decide +kernel
theorem dX9_goer_74 : decode cX9_goer 74 = .ok (.ireturn, 1) := by decide +kernel
theorem dX9_of_0 : decode cX9_of 0 = .ok (.aload_n 0, 1) := by decide +kernel
theorem dX9_of_1 : decode cX9_of 1 = .ok (.getfield 12, 3) := by decide +kernel
theorem dX9_of_4 : decode cX9_of 4 = .ok (.iload_n 1, 1) := by decide +kernel
theorem dX9_of_5 : decode cX9_of 5 = .ok (.invokevirtual 88, 3) := by decide +kernel
theorem dX9_of_8 : decode cX9_of 8 = .ok (.ifCond .ne 5, 3) := by decide +kernel
theorem dX9_of_11 : decode cX9_of 11 = .ok (.iconst (-1), 1) := by decide +kernel
theorem dX9_of_12 : decode cX9_of 12 = .ok (.ireturn, 1) := by decide +kernel
theorem dX9_of_13 : decode cX9_of 13 = .ok (.iload_n 2, 1) := by decide +kernel
theorem dX9_of_14 : decode cX9_of 14 = .ok (.bipush 10, 2) := by decide +kernel
theorem dX9_of_16 : decode cX9_of 16 = .ok (.invokestatic 91, 3) := by decide +kernel
theorem dX9_of_19 : decode cX9_of 19 = .ok (.ifCond .eq 16, 3) := by decide +kernel
theorem dX9_of_22 : decode cX9_of 22 = .ok (.aload_n 0, 1) := by decide +kernel
theorem dX9_of_23 : decode cX9_of 23 = .ok (.getfield 12, 3) := by decide +kernel
theorem dX9_of_26 : decode cX9_of 26 = .ok (.iload_n 1, 1) := by decide +kernel
theorem dX9_of_27 : decode cX9_of 27 = .ok (.iload_n 2, 1) := by decide +kernel
theorem dX9_of_28 : decode cX9_of 28 = .ok (.bipush 10, 2) := by decide +kernel
theorem dX9_of_30 : decode cX9_of 30 = .ok (.isub, 1) := by decide +kernel
theorem dX9_of_31 : decode cX9_of 31 = .ok (.invokevirtual 95, 3) := by decide +kernel
theorem dX9_of_34 : decode cX9_of 34 = .ok (.ireturn, 1) := by decide +kernel
theorem dX9_of_35 : decode cX9_of 35 = .ok (.iload_n 2, 1) := by decide +kernel
theorem dX9_of_36 : decode cX9_of 36 = .ok (.bipush 30, 2) := by decide +kernel
theorem dX9_of_38 : decode cX9_of 38 = .ok (.invokestatic 91, 3) := by decide +kernel
theorem dX9_of_41 : decode cX9_of 41 = .ok (.ifCond .eq 17, 3) := by decide +kernel
theorem dX9_of_44 : decode cX9_of 44 = .ok (.aload_n 0, 1) := by decide +kernel
theorem dX9_of_45 : decode cX9_of 45 = .ok (.getfield 12, 3) := by decide +kernel
theorem dX9_of_48 : decode cX9_of 48 = .ok (.iload_n 1, 1) := by decide +kernel
theorem dX9_of_49 : decode cX9_of 49 = .ok (.iload_n 2, 1) := by decide +kernel
theorem dX9_of_50 : decode cX9_of 50 = .ok (.bipush 30, 2) := by decide +kernel
theorem dX9_of_52 : decode cX9_of 52 = .ok (.isub, 1) := by decide +kernel
theorem dX9_of_53 : decode cX9_of 53 = .ok (.iconst 1, 1) := by decide +kernel
theorem dX9_of_54 : decode cX9_of 54 = .ok (.invokevirtual 99, 3) := by decide +kernel
theorem dX9_of_57 : decode cX9_of 57 = .ok (.ireturn, 1) := by decide +kernel
theorem dX9_of_58 : decode cX9_of 58 = .ok (.iload_n 2, 1) := by decide +kernel
theorem dX9_of_59 : decode cX9_of 59 = .ok (.bipush 50, 2) := by decide +kernel
theorem dX9_of_61 : decode cX9_of 61 = .ok (.invokestatic 91, 3) := by decide +kernel
theorem dX9_of_64 : decode cX9_of 64 = .ok (.ifCond .eq 21, 3) := by decide +kernel
theorem dX9_of_67 : decode cX9_of 67 = .ok (.aload_n 0, 1) := by decide +kernel
theorem dX9_of_68 : decode cX9_of 68 = .ok (.getfield 12, 3) := by decide +kernel
theorem dX9_of_71 : decode cX9_of 71 = .ok (.getfield 103, 3) := by decide +kernel
theorem dX9_of_74 : decode cX9_of 74 = .ok (.iload_n 1, 1) := by decide +kernel
theorem dX9_of_75 : decode cX9_of 75 = .ok (.bipush 16, 2) := by decide +kernel
theorem dX9_of_77 : decode cX9_of 77 = .ok (.imul, 1) := by decide +kernel
theorem dX9_of_78 : decode cX9_of 78 = .ok (.iload_n 2, 1) := by decide +kernel
theorem dX9_of_79 : decode cX9_of 79 = .ok (.iadd, 1) := by decide +kernel
theorem dX9_of_80 : decode cX9_of 80 = .ok (.bipush 50, 2) := by decide +kernel
theorem dX9_of_82 : decode cX9_of 82 = .ok (.isub, 1) := by decide +kernel
theorem dX9_of_83 : decode cX9_of 83 = .ok (.iaload, 1) := by decide +kernel
theorem dX9_of_84 : decode cX9_of 84 = .ok (.ireturn, 1) := by decide +kernel
theorem dX9_of_85 : decode cX9_of 85 = .ok (.iload_n 2, 1) := by decide +kernel
theorem dX9_of_86 : decode cX9_of 86 = .ok (.tableswitch 103 0 5 #[38, 48, 58, 68, 78, 90], 38) := by decide +kernel
theorem dX9_of_124 : decode cX9_of 124 = .ok (.aload_n 0, 1) := by decide +kernel
theorem dX9_of_125 : decode cX9_of 125 = .ok (.getfield 12, 3) := by decide +kernel
theorem dX9_of_128 : decode cX9_of 128 = .ok (.getfield 107, 3) := by decide +kernel
theorem dX9_of_131 : decode cX9_of 131 = .ok (.iload_n 1, 1) := by decide +kernel
theorem dX9_of_132 : decode cX9_of 132 = .ok (.iaload, 1) := by decide +kernel
theorem dX9_of_133 : decode cX9_of 133 = .ok (.ireturn, 1) := by decide +kernel
theorem dX9_of_134 : decode cX9_of 134 = .ok (.aload_n 0, 1) := by decide +kernel
theorem dX9_of_135 : decode cX9_of 135 = .ok (.getfield 12, 3) := by decide +kernel
theorem dX9_of_138 : decode cX9_of 138 = .ok (.getfield 110, 3) := by decide +kernel
theorem dX9_of_141 : decode cX9_of 141 = .ok (.iload_n 1, 1) := by decide +kernel
theorem dX9_of_142 : decode cX9_of 142 = .ok (.iaload, 1) := by decide +kernel
theorem dX9_of_143 : decode cX9_of 143 = .ok (.ireturn, 1) := by decide +kernel
theorem dX9_of_144 : decode cX9_of 144 = .ok (.aload_n 0, 1) := by decide +kernel
theorem dX9_of_145 : decode cX9_of 145 = .ok (.getfield 12, 3) := by decide +kernel
theorem dX9_of_148 : decode cX9_of 148 = .ok (.getfield 113, 3) := by decide +kernel
theorem dX9_of_151 : decode cX9_of 151 = .ok (.iload_n 1, 1) := by decide +kernel
theorem dX9_of_152 : decode cX9_of 152 = .ok (.iaload, 1) := by decide +kernel
theorem dX9_of_153 : decode cX9_of 153 = .ok (.ireturn, 1) := by decide +kernel
theorem dX9_of_154 : decode cX9_of 154 = .ok (.aload_n 0, 1) := by decide +kernel
theorem dX9_of_155 : decode cX9_of 155 = .ok (.getfield 12, 3) := by decide +kernel
theorem dX9_of_158 : decode cX9_of 158 = .ok (.getfield 116, 3) := by decide +kernel
theorem dX9_of_161 : decode cX9_of 161 = .ok (.iload_n 1, 1) := by decide +kernel
theorem dX9_of_162 : decode cX9_of 162 = .ok (.iaload, 1) := by decide +kernel
theorem dX9_of_163 : decode cX9_of 163 = .ok (.ireturn, 1) := by decide +kernel
theorem dX9_of_164 : decode cX9_of 164 = .ok (.aload_n 0, 1) := by decide +kernel
theorem dX9_of_165 : decode cX9_of 165 = .ok (.getfield 12, 3) := by decide +kernel
theorem dX9_of_168 : decode cX9_of 168 = .ok (.iload_n 1, 1) := by decide +kernel
theorem dX9_of_169 : decode cX9_of 169 = .ok (.invokevirtual 119, 3) := by decide +kernel
theorem dX9_of_172 : decode cX9_of 172 = .ok (.invokestatic 122, 3) := by decide +kernel
theorem dX9_of_175 : decode cX9_of 175 = .ok (.ireturn, 1) := by decide +kernel
theorem dX9_of_176 : decode cX9_of 176 = .ok (.aload_n 0, 1) := by decide +kernel
theorem dX9_of_177 : decode cX9_of 177 = .ok (.getfield 12, 3) := by decide +kernel
theorem dX9_of_180 : decode cX9_of 180 = .ok (.getfield 126, 3) := by decide +kernel
theorem dX9_of_183 : decode cX9_of 183 = .ok (.iload_n 1, 1) := by decide +kernel
theorem dX9_of_184 : decode cX9_of 184 = .ok (.iaload, 1) := by decide +kernel
theorem dX9_of_185 : decode cX9_of 185 = .ok (.invokestatic 129, 3) := by decide +kernel
theorem dX9_of_188 : decode cX9_of 188 = .ok (.ireturn, 1) := by decide +kernel
theorem dX9_of_189 : decode cX9_of 189 = .ok (.iconst (-1), 1) := by decide +kernel
theorem dX9_of_190 : decode cX9_of 190 = .ok (.ireturn, 1) := by decide +kernel
theorem dX9_set_0 : decode cX9_set 0 = .ok (.iload_n 1, 1) := by decide +kernel
theorem dX9_set_1 : decode cX9_set 1 = .ok (.invokestatic 67, 3) := by decide +kernel
theorem dX9_set_4 : decode cX9_set 4 = .ok (.ifCond .ne 5, 3) := by decide +kernel
theorem dX9_set_7 : decode cX9_set 7 = .ok (.iconst (-1), 1) := by decide +kernel
theorem dX9_set_8 : decode cX9_set 8 = .ok (.ireturn, 1) := by decide +kernel
theorem dX9_set_9 : decode cX9_set 9 = .ok (.iload_n 2, 1) := by decide +kernel
theorem dX9_set_10 : decode cX9_set 10 = .ok (.iconst 0, 1) := by decide +kernel
theorem dX9_set_11 : decode cX9_set 11 = .ok (.sipush 9999, 3) := by decide +kernel
theorem dX9_set_14 : decode cX9_set 14 = .ok (.invokestatic 72, 3) := by decide +kernel
theorem dX9_set_17 : decode cX9_set 17 = .ok (.ifCond .ne 6, 3) := by decide +kernel
theorem dX9_set_20 : decode cX9_set 20 = .ok (.bipush (-2), 2) := by decide +kernel
theorem dX9_set_22 : decode cX9_set 22 = .ok (.ireturn, 1) := by decide +kernel
theorem dX9_set_23 : decode cX9_set 23 = .ok (.aload_n 0, 1) := by decide +kernel
theorem dX9_set_24 : decode cX9_set 24 = .ok (.getfield 12, 3) := by decide +kernel
theorem dX9_set_27 : decode cX9_set 27 = .ok (.getfield 133, 3) := by decide +kernel
theorem dX9_set_30 : decode cX9_set 30 = .ok (.iload_n 1, 1) := by decide +kernel
theorem dX9_set_31 : decode cX9_set 31 = .ok (.iaload, 1) := by decide +kernel
theorem dX9_set_32 : decode cX9_set 32 = .ok (.istore_n 3, 1) := by decide +kernel
theorem dX9_set_33 : decode cX9_set 33 = .ok (.aload_n 0, 1) := by decide +kernel
theorem dX9_set_34 : decode cX9_set 34 = .ok (.getfield 12, 3) := by decide +kernel
theorem dX9_set_37 : decode cX9_set 37 = .ok (.getfield 133, 3) := by decide +kernel
theorem dX9_set_40 : decode cX9_set 40 = .ok (.iload_n 1, 1) := by decide +kernel
theorem dX9_set_41 : decode cX9_set 41 = .ok (.iload_n 2, 1) := by decide +kernel
theorem dX9_set_42 : decode cX9_set 42 = .ok (.iastore, 1) := by decide +kernel
theorem dX9_set_43 : decode cX9_set 43 = .ok (.iload_n 3, 1) := by decide +kernel
theorem dX9_set_44 : decode cX9_set 44 = .ok (.ireturn, 1) := by decide +kernel
theorem dX9_move_0 : decode cX9_move 0 = .ok (.aload_n 0, 1) := by decide +kernel
theorem dX9_move_1 : decode cX9_move 1 = .ok (.getfield 12, 3) := by decide +kernel
theorem dX9_move_4 : decode cX9_move 4 = .ok (.iload_n 1, 1) := by decide +kernel
theorem dX9_move_5 : decode cX9_move 5 = .ok (.invokevirtual 88, 3) := by decide +kernel
theorem dX9_move_8 : decode cX9_move 8 = .ok (.ifCond .eq 19, 3) := by decide +kernel
theorem dX9_move_11 : decode cX9_move 11 = .ok (.iload_n 2, 1) := by decide +kernel
theorem dX9_move_12 : decode cX9_move 12 = .ok (.iconst 0, 1) := by decide +kernel
theorem dX9_move_13 : decode cX9_move 13 = .ok (.iconst 1, 1) := by decide +kernel
theorem dX9_move_14 : decode cX9_move 14 = .ok (.invokestatic 72, 3) := by decide +kernel
theorem dX9_move_17 : decode cX9_move 17 = .ok (.ifCond .eq 10, 3) := by decide +kernel
theorem dX9_move_20 : decode cX9_move 20 = .ok (.iload_n 3, 1) := by decide +kernel
theorem dX9_move_21 : decode cX9_move 21 = .ok (.invokestatic 67, 3) := by decide +kernel
theorem dX9_move_24 : decode cX9_move 24 = .ok (.ifCond .ne 5, 3) := by decide +kernel
theorem dX9_move_27 : decode cX9_move 27 = .ok (.iconst (-1), 1) := by decide +kernel
theorem dX9_move_28 : decode cX9_move 28 = .ok (.ireturn, 1) := by decide +kernel
theorem dX9_move_29 : decode cX9_move 29 = .ok (.iload_n 2, 1) := by decide +kernel
theorem dX9_move_30 : decode cX9_move 30 = .ok (.ifCond .ne 13, 3) := by decide +kernel
theorem dX9_move_33 : decode cX9_move 33 = .ok (.aload_n 0, 1) := by decide +kernel
theorem dX9_move_34 : decode cX9_move 34 = .ok (.getfield 12, 3) := by decide +kernel
theorem dX9_move_37 : decode cX9_move 37 = .ok (.getfield 113, 3) := by decide +kernel
theorem dX9_move_40 : decode cX9_move 40 = .ok (.goto 10, 3) := by decide +kernel
theorem dX9_move_43 : decode cX9_move 43 = .ok (.aload_n 0, 1) := by decide +kernel
theorem dX9_move_44 : decode cX9_move 44 = .ok (.getfield 12, 3) := by decide +kernel
theorem dX9_move_47 : decode cX9_move 47 = .ok (.getfield 116, 3) := by decide +kernel
theorem dX9_move_50 : decode cX9_move 50 = .ok (.astore 4, 2) := by decide +kernel
theorem dX9_move_52 : decode cX9_move 52 = .ok (.aload 4, 2) := by decide +kernel
theorem dX9_move_54 : decode cX9_move 54 = .ok (.iload_n 1, 1) := by decide +kernel
theorem dX9_move_55 : decode cX9_move 55 = .ok (.iaload, 1) := by decide +kernel
theorem dX9_move_56 : decode cX9_move 56 = .ok (.istore 5, 2) := by decide +kernel
theorem dX9_move_58 : decode cX9_move 58 = .ok (.aload 4, 2) := by decide +kernel
theorem dX9_move_60 : decode cX9_move 60 = .ok (.iload_n 1, 1) := by decide +kernel
theorem dX9_move_61 : decode cX9_move 61 = .ok (.iload_n 3, 1) := by decide +kernel
theorem dX9_move_62 : decode cX9_move 62 = .ok (.iastore, 1) := by decide +kernel
theorem dX9_move_63 : decode cX9_move 63 = .ok (.aload_n 0, 1) := by decide +kernel
theorem dX9_move_64 : decode cX9_move 64 = .ok (.getfield 12, 3) := by decide +kernel
theorem dX9_move_67 : decode cX9_move 67 = .ok (.iload_n 1, 1) := by decide +kernel
theorem dX9_move_68 : decode cX9_move 68 = .ok (.invokevirtual 136, 3) := by decide +kernel
theorem dX9_move_71 : decode cX9_move 71 = .ok (.iload 5, 2) := by decide +kernel
theorem dX9_move_73 : decode cX9_move 73 = .ok (.ireturn, 1) := by decide +kernel
theorem dX9_away_0 : decode cX9_away 0 = .ok (.aload_n 0, 1) := by decide +kernel
theorem dX9_away_1 : decode cX9_away 1 = .ok (.getfield 12, 3) := by decide +kernel
theorem dX9_away_4 : decode cX9_away 4 = .ok (.iload_n 1, 1) := by decide +kernel
theorem dX9_away_5 : decode cX9_away 5 = .ok (.invokevirtual 88, 3) := by decide +kernel
theorem dX9_away_8 : decode cX9_away 8 = .ok (.ifCond .ne 5, 3) := by decide +kernel
theorem dX9_away_11 : decode cX9_away 11 = .ok (.iconst (-1), 1) := by decide +kernel
theorem dX9_away_12 : decode cX9_away 12 = .ok (.ireturn, 1) := by decide +kernel
theorem dX9_away_13 : decode cX9_away 13 = .ok (.aload_n 0, 1) := by decide +kernel
theorem dX9_away_14 : decode cX9_away 14 = .ok (.getfield 12, 3) := by decide +kernel
theorem dX9_away_17 : decode cX9_away 17 = .ok (.iload_n 1, 1) := by decide +kernel
theorem dX9_away_18 : decode cX9_away 18 = .ok (.invokevirtual 119, 3) := by decide +kernel
theorem dX9_away_21 : decode cX9_away 21 = .ok (.invokestatic 122, 3) := by decide +kernel
theorem dX9_away_24 : decode cX9_away 24 = .ok (.istore_n 3, 1) := by decide +kernel
theorem dX9_away_25 : decode cX9_away 25 = .ok (.aload_n 0, 1) := by decide +kernel
theorem dX9_away_26 : decode cX9_away 26 = .ok (.getfield 12, 3) := by decide +kernel
theorem dX9_away_29 : decode cX9_away 29 = .ok (.iload_n 1, 1) := by decide +kernel
theorem dX9_away_30 : decode cX9_away 30 = .ok (.iload_n 2, 1) := by decide +kernel
theorem dX9_away_31 : decode cX9_away 31 = .ok (.invokevirtual 139, 3) := by decide +kernel
theorem dX9_away_34 : decode cX9_away 34 = .ok (.iload_n 3, 1) := by decide +kernel
theorem dX9_away_35 : decode cX9_away 35 = .ok (.ireturn, 1) := by decide +kernel
theorem dX9_stand_0 : decode cX9_stand 0 = .ok (.iload_n 1, 1) := by decide +kernel
theorem dX9_stand_1 : decode cX9_stand 1 = .ok (.invokestatic 67, 3) := by decide +kernel
theorem dX9_stand_4 : decode cX9_stand 4 = .ok (.ifCond .ne 5, 3) := by decide +kernel
theorem dX9_stand_7 : decode cX9_stand 7 = .ok (.iconst (-1), 1) := by decide +kernel
theorem dX9_stand_8 : decode cX9_stand 8 = .ok (.ireturn, 1) := by decide +kernel
theorem dX9_stand_9 : decode cX9_stand 9 = .ok (.aload_n 0, 1) := by decide +kernel
theorem dX9_stand_10 : decode cX9_stand 10 = .ok (.getfield 12, 3) := by decide +kernel
theorem dX9_stand_13 : decode cX9_stand 13 = .ok (.getfield 143, 3) := by decide +kernel
theorem dX9_stand_16 : decode cX9_stand 16 = .ok (.iload_n 1, 1) := by decide +kernel
theorem dX9_stand_17 : decode cX9_stand 17 = .ok (.invokestatic 146, 3) := by decide +kernel
theorem dX9_stand_20 : decode cX9_stand 20 = .ok (.istore_n 3, 1) := by decide +kernel
theorem dX9_stand_21 : decode cX9_stand 21 = .ok (.iload_n 3, 1) := by decide +kernel
theorem dX9_stand_22 : decode cX9_stand 22 = .ok (.iload_n 2, 1) := by decide +kernel
theorem dX9_stand_23 : decode cX9_stand 23 = .ok (.if_icmp .eq 21, 3) := by decide +kernel
theorem dX9_stand_26 : decode cX9_stand 26 = .ok (.aload_n 0, 1) := by decide +kernel
theorem dX9_stand_27 : decode cX9_stand 27 = .ok (.getfield 12, 3) := by decide +kernel
theorem dX9_stand_30 : decode cX9_stand 30 = .ok (.aload_n 0, 1) := by decide +kernel
theorem dX9_stand_31 : decode cX9_stand 31 = .ok (.getfield 12, 3) := by decide +kernel
theorem dX9_stand_34 : decode cX9_stand 34 = .ok (.getfield 143, 3) := by decide +kernel
theorem dX9_stand_37 : decode cX9_stand 37 = .ok (.iconst 1, 1) := by decide +kernel
theorem dX9_stand_38 : decode cX9_stand 38 = .ok (.iload_n 1, 1) := by decide +kernel
theorem dX9_stand_39 : decode cX9_stand 39 = .ok (.ishl, 1) := by decide +kernel
theorem dX9_stand_40 : decode cX9_stand 40 = .ok (.ixor, 1) := by decide +kernel
theorem dX9_stand_41 : decode cX9_stand 41 = .ok (.invokevirtual 149, 3) := by decide +kernel
theorem dX9_stand_44 : decode cX9_stand 44 = .ok (.iload_n 3, 1) := by decide +kernel
theorem dX9_stand_45 : decode cX9_stand 45 = .ok (.invokestatic 122, 3) := by decide +kernel
theorem dX9_stand_48 : decode cX9_stand 48 = .ok (.ireturn, 1) := by decide +kernel
theorem dX9_row_0 : decode cX9_row 0 = .ok (.aload_n 0, 1) := by decide +kernel
theorem dX9_row_1 : decode cX9_row 1 = .ok (.getfield 12, 3) := by decide +kernel
theorem dX9_row_4 : decode cX9_row 4 = .ok (.iload_n 1, 1) := by decide +kernel
theorem dX9_row_5 : decode cX9_row 5 = .ok (.invokevirtual 88, 3) := by decide +kernel
theorem dX9_row_8 : decode cX9_row 8 = .ok (.ifCond .eq 12, 3) := by decide +kernel
theorem dX9_row_11 : decode cX9_row 11 = .ok (.iload_n 2, 1) := by decide +kernel
theorem dX9_row_12 : decode cX9_row 12 = .ok (.iconst 0, 1) := by decide +kernel
theorem dX9_row_13 : decode cX9_row 13 = .ok (.iconst 3, 1) := by decide +kernel
theorem dX9_row_14 : decode cX9_row 14 = .ok (.invokestatic 72, 3) := by decide +kernel
theorem dX9_row_17 : decode cX9_row 17 = .ok (.ifCond .ne 5, 3) := by decide +kernel
theorem dX9_row_20 : decode cX9_row 20 = .ok (.iconst (-1), 1) := by decide +kernel
theorem dX9_row_21 : decode cX9_row 21 = .ok (.ireturn, 1) := by decide +kernel
theorem dX9_row_22 : decode cX9_row 22 = .ok (.iload_n 3, 1) := by decide +kernel
theorem dX9_row_23 : decode cX9_row 23 = .ok (.iconst 0, 1) := by decide +kernel
theorem dX9_row_24 : decode cX9_row 24 = .ok (.bipush 9, 2) := by decide +kernel
theorem dX9_row_26 : decode cX9_row 26 = .ok (.invokestatic 72, 3) := by decide +kernel
theorem dX9_row_29 : decode cX9_row 29 = .ok (.ifCond .ne 6, 3) := by decide +kernel
theorem dX9_row_32 : decode cX9_row 32 = .ok (.bipush (-2), 2) := by decide +kernel
theorem dX9_row_34 : decode cX9_row 34 = .ok (.ireturn, 1) := by decide +kernel
theorem dX9_row_35 : decode cX9_row 35 = .ok (.aload_n 0, 1) := by decide +kernel
theorem dX9_row_36 : decode cX9_row 36 = .ok (.getfield 12, 3) := by decide +kernel
theorem dX9_row_39 : decode cX9_row 39 = .ok (.getfield 107, 3) := by decide +kernel
theorem dX9_row_42 : decode cX9_row 42 = .ok (.iload_n 1, 1) := by decide +kernel
theorem dX9_row_43 : decode cX9_row 43 = .ok (.iaload, 1) := by decide +kernel
theorem dX9_row_44 : decode cX9_row 44 = .ok (.bipush 6, 2) := by decide +kernel
theorem dX9_row_46 : decode cX9_row 46 = .ok (.if_icmp .eq 6, 3) := by decide +kernel
theorem dX9_row_49 : decode cX9_row 49 = .ok (.bipush (-3), 2) := by decide +kernel
theorem dX9_row_51 : decode cX9_row 51 = .ok (.ireturn, 1) := by decide +kernel
theorem dX9_row_52 : decode cX9_row 52 = .ok (.iload_n 1, 1) := by decide +kernel
theorem dX9_row_53 : decode cX9_row 53 = .ok (.iconst 4, 1) := by decide +kernel
theorem dX9_row_54 : decode cX9_row 54 = .ok (.imul, 1) := by decide +kernel
theorem dX9_row_55 : decode cX9_row 55 = .ok (.iload_n 2, 1) := by decide +kernel
theorem dX9_row_56 : decode cX9_row 56 = .ok (.iadd, 1) := by decide +kernel
theorem dX9_row_57 : decode cX9_row 57 = .ok (.istore 4, 2) := by decide +kernel
theorem dX9_row_59 : decode cX9_row 59 = .ok (.aload_n 0, 1) := by decide +kernel
theorem dX9_row_60 : decode cX9_row 60 = .ok (.getfield 12, 3) := by decide +kernel
theorem dX9_row_63 : decode cX9_row 63 = .ok (.getfield 152, 3) := by decide +kernel
theorem dX9_row_66 : decode cX9_row 66 = .ok (.iload 4, 2) := by decide +kernel
theorem dX9_row_68 : decode cX9_row 68 = .ok (.iaload, 1) := by decide +kernel
theorem dX9_row_69 : decode cX9_row 69 = .ok (.istore 5, 2) := by decide +kernel
theorem dX9_row_71 : decode cX9_row 71 = .ok (.aload_n 0, 1) := by decide +kernel
theorem dX9_row_72 : decode cX9_row 72 = .ok (.getfield 12, 3) := by decide +kernel
theorem dX9_row_75 : decode cX9_row 75 = .ok (.getfield 152, 3) := by decide +kernel
theorem dX9_row_78 : decode cX9_row 78 = .ok (.iload 4, 2) := by decide +kernel
theorem dX9_row_80 : decode cX9_row 80 = .ok (.iload_n 3, 1) := by decide +kernel
theorem dX9_row_81 : decode cX9_row 81 = .ok (.iastore, 1) := by decide +kernel
theorem dX9_row_82 : decode cX9_row 82 = .ok (.iload 5, 2) := by decide +kernel
theorem dX9_row_84 : decode cX9_row 84 = .ok (.ireturn, 1) := by decide +kernel
theorem dX9_feed_0 : decode cX9_feed 0 = .ok (.iload_n 1, 1) := by decide +kernel
theorem dX9_feed_1 : decode cX9_feed 1 = .ok (.iconst 0, 1) := by decide +kernel
theorem dX9_feed_2 : decode cX9_feed 2 = .ok (.bipush 127, 2) := by decide +kernel
theorem dX9_feed_4 : decode cX9_feed 4 = .ok (.invokestatic 72, 3) := by decide +kernel
theorem dX9_feed_7 : decode cX9_feed 7 = .ok (.ifCond .ne 6, 3) := by decide +kernel
theorem dX9_feed_10 : decode cX9_feed 10 = .ok (.bipush (-2), 2) := by decide +kernel
theorem dX9_feed_12 : decode cX9_feed 12 = .ok (.ireturn, 1) := by decide +kernel
theorem dX9_feed_13 : decode cX9_feed 13 = .ok (.aload_n 0, 1) := by decide +kernel
theorem dX9_feed_14 : decode cX9_feed 14 = .ok (.getfield 34, 3) := by decide +kernel
theorem dX9_feed_17 : decode cX9_feed 17 = .ok (.iload_n 1, 1) := by decide +kernel
theorem dX9_feed_18 : decode cX9_feed 18 = .ok (.i2b, 1) := by decide +kernel
theorem dX9_feed_19 : decode cX9_feed 19 = .ok (.invokevirtual 155, 3) := by decide +kernel
theorem dX9_feed_22 : decode cX9_feed 22 = .ok (.ifCond .eq 13, 3) := by decide +kernel
theorem dX9_feed_25 : decode cX9_feed 25 = .ok (.aload_n 0, 1) := by decide +kernel
theorem dX9_feed_26 : decode cX9_feed 26 = .ok (.getfield 34, 3) := by decide +kernel
theorem dX9_feed_29 : decode cX9_feed 29 = .ok (.invokevirtual 159, 3) := by decide +kernel
theorem dX9_feed_32 : decode cX9_feed 32 = .ok (.goto 5, 3) := by decide +kernel
theorem dX9_feed_35 : decode cX9_feed 35 = .ok (.bipush (-4), 2) := by decide +kernel
theorem dX9_feed_37 : decode cX9_feed 37 = .ok (.ireturn, 1) := by decide +kernel
theorem dX9_room_0 : decode cX9_room 0 = .ok (.aload_n 0, 1) := by decide +kernel
theorem dX9_room_1 : decode cX9_room 1 = .ok (.getfield 34, 3) := by decide +kernel
theorem dX9_room_4 : decode cX9_room 4 = .ok (.invokevirtual 163, 3) := by decide +kernel
theorem dX9_room_7 : decode cX9_room 7 = .ok (.istore_n 1, 1) := by decide +kernel
theorem dX9_room_8 : decode cX9_room 8 = .ok (.iload_n 1, 1) := by decide +kernel
theorem dX9_room_9 : decode cX9_room 9 = .ok (.ifCond .ge 5, 3) := by decide +kernel
theorem dX9_room_12 : decode cX9_room 12 = .ok (.iload_n 1, 1) := by decide +kernel
theorem dX9_room_13 : decode cX9_room 13 = .ok (.ireturn, 1) := by decide +kernel
theorem dX9_room_14 : decode cX9_room 14 = .ok (.aload_n 0, 1) := by decide +kernel
theorem dX9_room_15 : decode cX9_room 15 = .ok (.getfield 12, 3) := by decide +kernel
theorem dX9_room_18 : decode cX9_room 18 = .ok (.iload_n 1, 1) := by decide +kernel
theorem dX9_room_19 : decode cX9_room 19 = .ok (.putfield 166, 3) := by decide +kernel
theorem dX9_room_22 : decode cX9_room 22 = .ok (.aload_n 0, 1) := by decide +kernel
theorem dX9_room_23 : decode cX9_room 23 = .ok (.getfield 12, 3) := by decide +kernel
theorem dX9_room_26 : decode cX9_room 26 = .ok (.aload_n 0, 1) := by decide +kernel
theorem dX9_room_27 : decode cX9_room 27 = .ok (.getfield 34, 3) := by decide +kernel
theorem dX9_room_30 : decode cX9_room 30 = .ok (.invokevirtual 169, 3) := by decide +kernel
theorem dX9_room_33 : decode cX9_room 33 = .ok (.putfield 172, 3) := by decide +kernel
theorem dX9_room_36 : decode cX9_room 36 = .ok (.iconst 0, 1) := by decide +kernel
theorem dX9_room_37 : decode cX9_room 37 = .ok (.istore_n 2, 1) := by decide +kernel
theorem dX9_room_38 : decode cX9_room 38 = .ok (.iload_n 2, 1) := by decide +kernel
theorem dX9_room_39 : decode cX9_room 39 = .ok (.aload_n 0, 1) := by decide +kernel
theorem dX9_room_40 : decode cX9_room 40 = .ok (.getfield 12, 3) := by decide +kernel
theorem dX9_room_43 : decode cX9_room 43 = .ok (.getfield 76, 3) := by decide +kernel
theorem dX9_room_46 : decode cX9_room 46 = .ok (.if_icmp .ge 14, 3) := by decide +kernel
theorem dX9_room_49 : decode cX9_room 49 = .ok (.aload_n 0, 1) := by decide +kernel
theorem dX9_room_50 : decode cX9_room 50 = .ok (.iload_n 2, 1) := by decide +kernel
theorem dX9_room_51 : decode cX9_room 51 = .ok (.invokevirtual 84, 3) := by decide +kernel
theorem dX9_room_54 : decode cX9_room 54 = .ok (.iinc 2 1, 3) := by decide +kernel
theorem dX9_room_57 : decode cX9_room 57 = .ok (.goto (-19), 3) := by decide +kernel
theorem dX9_room_60 : decode cX9_room 60 = .ok (.iload_n 1, 1) := by decide +kernel
theorem dX9_room_61 : decode cX9_room 61 = .ok (.ireturn, 1) := by decide +kernel
theorem dX9_told_0 : decode cX9_told 0 = .ok (.iload_n 1, 1) := by decide +kernel
theorem dX9_told_1 : decode cX9_told 1 = .ok (.bipush 10, 2) := by decide +kernel
theorem dX9_told_3 : decode cX9_told 3 = .ok (.invokestatic 91, 3) := by decide +kernel
theorem dX9_told_6 : decode cX9_told 6 = .ok (.ifCond .eq 16, 3) := by decide +kernel
theorem dX9_told_9 : decode cX9_told 9 = .ok (.aload_n 0, 1) := by decide +kernel
theorem dX9_told_10 : decode cX9_told 10 = .ok (.getfield 12, 3) := by decide +kernel
theorem dX9_told_13 : decode cX9_told 13 = .ok (.getfield 133, 3) := by decide +kernel
theorem dX9_told_16 : decode cX9_told 16 = .ok (.iload_n 1, 1) := by decide +kernel
theorem dX9_told_17 : decode cX9_told 17 = .ok (.bipush 10, 2) := by decide +kernel
theorem dX9_told_19 : decode cX9_told 19 = .ok (.isub, 1) := by decide +kernel
theorem dX9_told_20 : decode cX9_told 20 = .ok (.iaload, 1) := by decide +kernel
theorem dX9_told_21 : decode cX9_told 21 = .ok (.ireturn, 1) := by decide +kernel
theorem dX9_told_22 : decode cX9_told 22 = .ok (.iload_n 1, 1) := by decide +kernel
theorem dX9_told_23 : decode cX9_told 23 = .ok (.tableswitch 97 0 6 #[41, 49, 57, 65, 73, 81, 89], 41) := by decide +kernel
theorem dX9_told_64 : decode cX9_told 64 = .ok (.aload_n 0, 1) := by decide +kernel
theorem dX9_told_65 : decode cX9_told 65 = .ok (.getfield 12, 3) := by decide +kernel
theorem dX9_told_68 : decode cX9_told 68 = .ok (.getfield 174, 3) := by decide +kernel
theorem dX9_told_71 : decode cX9_told 71 = .ok (.ireturn, 1) := by decide +kernel
theorem dX9_told_72 : decode cX9_told 72 = .ok (.aload_n 0, 1) := by decide +kernel
theorem dX9_told_73 : decode cX9_told 73 = .ok (.getfield 12, 3) := by decide +kernel
theorem dX9_told_76 : decode cX9_told 76 = .ok (.getfield 172, 3) := by decide +kernel
theorem dX9_told_79 : decode cX9_told 79 = .ok (.ireturn, 1) := by decide +kernel
theorem dX9_told_80 : decode cX9_told 80 = .ok (.aload_n 0, 1) := by decide +kernel
theorem dX9_told_81 : decode cX9_told 81 = .ok (.getfield 12, 3) := by decide +kernel
theorem dX9_told_84 : decode cX9_told 84 = .ok (.getfield 143, 3) := by decide +kernel
theorem dX9_told_87 : decode cX9_told 87 = .ok (.ireturn, 1) := by decide +kernel
theorem dX9_told_88 : decode cX9_told 88 = .ok (.aload_n 0, 1) := by decide +kernel
theorem dX9_told_89 : decode cX9_told 89 = .ok (.getfield 12, 3) := by decide +kernel
theorem dX9_told_92 : decode cX9_told 92 = .ok (.invokevirtual 177, 3) := by decide +kernel
theorem dX9_told_95 : decode cX9_told 95 = .ok (.ireturn, 1) := by decide +kernel
theorem dX9_told_96 : decode cX9_told 96 = .ok (.aload_n 0, 1) := by decide +kernel
theorem dX9_told_97 : decode cX9_told 97 = .ok (.getfield 12, 3) := by decide +kernel
theorem dX9_told_100 : decode cX9_told 100 = .ok (.invokevirtual 180, 3) := by decide +kernel
theorem dX9_told_103 : decode cX9_told 103 = .ok (.ireturn, 1) := by decide +kernel
theorem dX9_told_104 : decode cX9_told 104 = .ok (.aload_n 0, 1) := by decide +kernel
theorem dX9_told_105 : decode cX9_told 105 = .ok (.getfield 12, 3) := by decide +kernel
theorem dX9_told_108 : decode cX9_told 108 = .ok (.invokevirtual 183, 3) := by decide +kernel
theorem dX9_told_111 : decode cX9_told 111 = .ok (.ireturn, 1) := by decide +kernel
theorem dX9_told_112 : decode cX9_told 112 = .ok (.aload_n 0, 1) := by decide +kernel
theorem dX9_told_113 : decode cX9_told 113 = .ok (.getfield 43, 3) := by decide +kernel
theorem dX9_told_116 : decode cX9_told 116 = .ok (.invokevirtual 186, 3) := by decide +kernel
theorem dX9_told_119 : decode cX9_told 119 = .ok (.ireturn, 1) := by decide +kernel
theorem dX9_told_120 : decode cX9_told 120 = .ok (.iconst (-1), 1) := by decide +kernel
theorem dX9_told_121 : decode cX9_told 121 = .ok (.ireturn, 1) := by decide +kernel
theorem dX9_pass_0 : decode cX9_pass 0 = .ok (.iload_n 1, 1) := by decide +kernel
theorem dX9_pass_1 : decode cX9_pass 1 = .ok (.iconst 0, 1) := by decide +kernel
theorem dX9_pass_2 : decode cX9_pass 2 = .ok (.bipush 60, 2) := by decide +kernel
theorem dX9_pass_4 : decode cX9_pass 4 = .ok (.invokestatic 72, 3) := by decide +kernel
theorem dX9_pass_7 : decode cX9_pass 7 = .ok (.ifCond .ne 6, 3) := by decide +kernel
theorem dX9_pass_10 : decode cX9_pass 10 = .ok (.bipush (-2), 2) := by decide +kernel
theorem dX9_pass_12 : decode cX9_pass 12 = .ok (.ireturn, 1) := by decide +kernel
theorem dX9_pass_13 : decode cX9_pass 13 = .ok (.aload_n 0, 1) := by decide +kernel
theorem dX9_pass_14 : decode cX9_pass 14 = .ok (.getfield 12, 3) := by decide +kernel
theorem dX9_pass_17 : decode cX9_pass 17 = .ok (.getfield 174, 3) := by decide +kernel
theorem dX9_pass_20 : decode cX9_pass 20 = .ok (.iload_n 1, 1) := by decide +kernel
theorem dX9_pass_21 : decode cX9_pass 21 = .ok (.iadd, 1) := by decide +kernel
theorem dX9_pass_22 : decode cX9_pass 22 = .ok (.sipush 9999, 3) := by decide +kernel
theorem dX9_pass_25 : decode cX9_pass 25 = .ok (.if_icmp .le 6, 3) := by decide +kernel
theorem dX9_pass_28 : decode cX9_pass 28 = .ok (.bipush (-3), 2) := by decide +kernel
theorem dX9_pass_30 : decode cX9_pass 30 = .ok (.ireturn, 1) := by decide +kernel
theorem dX9_pass_31 : decode cX9_pass 31 = .ok (.aload_n 0, 1) := by decide +kernel
theorem dX9_pass_32 : decode cX9_pass 32 = .ok (.getfield 12, 3) := by decide +kernel
theorem dX9_pass_35 : decode cX9_pass 35 = .ok (.iload_n 1, 1) := by decide +kernel
theorem dX9_pass_36 : decode cX9_pass 36 = .ok (.invokevirtual 189, 3) := by decide +kernel
theorem dX9_pass_39 : decode cX9_pass 39 = .ok (.aload_n 0, 1) := by decide +kernel
theorem dX9_pass_40 : decode cX9_pass 40 = .ok (.getfield 12, 3) := by decide +kernel
theorem dX9_pass_43 : decode cX9_pass 43 = .ok (.invokevirtual 192, 3) := by decide +kernel
theorem dX9_pass_46 : decode cX9_pass 46 = .ok (.aload_n 0, 1) := by decide +kernel
theorem dX9_pass_47 : decode cX9_pass 47 = .ok (.getfield 12, 3) := by decide +kernel
theorem dX9_pass_50 : decode cX9_pass 50 = .ok (.getfield 174, 3) := by decide +kernel
theorem dX9_pass_53 : decode cX9_pass 53 = .ok (.ireturn, 1) := by decide +kernel
theorem dX9_on_0 : decode cX9_on 0 = .ok (.iload_n 2, 1) := by decide +kernel
theorem dX9_on_1 : decode cX9_on 1 = .ok (.bipush 10, 2) := by decide +kernel
theorem dX9_on_3 : decode cX9_on 3 = .ok (.invokestatic 91, 3) := by decide +kernel
theorem dX9_on_6 : decode cX9_on 6 = .ok (.istore_n 3, 1) := by decide +kernel
theorem dX9_on_7 : decode cX9_on 7 = .ok (.iload_n 3, 1) := by decide +kernel
theorem dX9_on_8 : decode cX9_on 8 = .ok (.ifCond .ne 14, 3) := by decide +kernel
theorem dX9_on_11 : decode cX9_on 11 = .ok (.iload_n 2, 1) := by decide +kernel
theorem dX9_on_12 : decode cX9_on 12 = .ok (.iconst 0, 1) := by decide +kernel
theorem dX9_on_13 : decode cX9_on 13 = .ok (.iconst 1, 1) := by decide +kernel
theorem dX9_on_14 : decode cX9_on 14 = .ok (.invokestatic 72, 3) := by decide +kernel
theorem dX9_on_17 : decode cX9_on 17 = .ok (.ifCond .ne 5, 3) := by decide +kernel
theorem dX9_on_20 : decode cX9_on 20 = .ok (.iconst (-1), 1) := by decide +kernel
theorem dX9_on_21 : decode cX9_on 21 = .ok (.ireturn, 1) := by decide +kernel
theorem dX9_on_22 : decode cX9_on 22 = .ok (.iload_n 1, 1) := by decide +kernel
theorem dX9_on_23 : decode cX9_on 23 = .ok (.iconst 0, 1) := by decide +kernel
theorem dX9_on_24 : decode cX9_on 24 = .ok (.bipush 60, 2) := by decide +kernel
theorem dX9_on_26 : decode cX9_on 26 = .ok (.invokestatic 72, 3) := by decide +kernel
theorem dX9_on_29 : decode cX9_on 29 = .ok (.ifCond .ne 6, 3) := by decide +kernel
theorem dX9_on_32 : decode cX9_on 32 = .ok (.bipush (-2), 2) := by decide +kernel
theorem dX9_on_34 : decode cX9_on 34 = .ok (.ireturn, 1) := by decide +kernel
theorem dX9_on_35 : decode cX9_on 35 = .ok (.aload_n 0, 1) := by decide +kernel
theorem dX9_on_36 : decode cX9_on 36 = .ok (.getfield 43, 3) := by decide +kernel
theorem dX9_on_39 : decode cX9_on 39 = .ok (.iload_n 1, 1) := by decide +kernel
theorem dX9_on_40 : decode cX9_on 40 = .ok (.invokevirtual 195, 3) := by decide +kernel
theorem dX9_on_43 : decode cX9_on 43 = .ok (.astore 4, 2) := by decide +kernel
theorem dX9_on_45 : decode cX9_on 45 = .ok (.iload_n 3, 1) := by decide +kernel
theorem dX9_on_46 : decode cX9_on 46 = .ok (.ifCond .eq 14, 3) := by decide +kernel
theorem dX9_on_49 : decode cX9_on 49 = .ok (.aload 4, 2) := by decide +kernel
theorem dX9_on_51 : decode cX9_on 51 = .ok (.getfield 133, 3) := by decide +kernel
theorem dX9_on_54 : decode cX9_on 54 = .ok (.iload_n 2, 1) := by decide +kernel
theorem dX9_on_55 : decode cX9_on 55 = .ok (.bipush 10, 2) := by decide +kernel
theorem dX9_on_57 : decode cX9_on 57 = .ok (.isub, 1) := by decide +kernel
theorem dX9_on_58 : decode cX9_on 58 = .ok (.iaload, 1) := by decide +kernel
theorem dX9_on_59 : decode cX9_on 59 = .ok (.ireturn, 1) := by decide +kernel
theorem dX9_on_60 : decode cX9_on 60 = .ok (.iload_n 2, 1) := by decide +kernel
theorem dX9_on_61 : decode cX9_on 61 = .ok (.ifCond .ne 11, 3) := by decide +kernel
theorem dX9_on_64 : decode cX9_on 64 = .ok (.aload 4, 2) := by decide +kernel
theorem dX9_on_66 : decode cX9_on 66 = .ok (.invokevirtual 177, 3) := by decide +kernel
theorem dX9_on_69 : decode cX9_on 69 = .ok (.goto 8, 3) := by decide +kernel
theorem dX9_on_72 : decode cX9_on 72 = .ok (.aload 4, 2) := by decide +kernel
theorem dX9_on_74 : decode cX9_on 74 = .ok (.invokevirtual 180, 3) := by decide +kernel
theorem dX9_on_77 : decode cX9_on 77 = .ok (.ireturn, 1) := by decide +kernel
theorem dX9_worn_0 : decode cX9_worn 0 = .ok (.iload_n 1, 1) := by decide +kernel
theorem dX9_worn_1 : decode cX9_worn 1 = .ok (.invokestatic 67, 3) := by decide +kernel
theorem dX9_worn_4 : decode cX9_worn 4 = .ok (.ifCond .eq 14, 3) := by decide +kernel
theorem dX9_worn_7 : decode cX9_worn 7 = .ok (.aload_n 0, 1) := by decide +kernel
theorem dX9_worn_8 : decode cX9_worn 8 = .ok (.getfield 43, 3) := by decide +kernel
theorem dX9_worn_11 : decode cX9_worn 11 = .ok (.iload_n 1, 1) := by decide +kernel
theorem dX9_worn_12 : decode cX9_worn 12 = .ok (.invokevirtual 199, 3) := by decide +kernel
theorem dX9_worn_15 : decode cX9_worn 15 = .ok (.goto 4, 3) := by decide +kernel
theorem dX9_worn_18 : decode cX9_worn 18 = .ok (.iconst (-1), 1) := by decide +kernel
theorem dX9_worn_19 : decode cX9_worn 19 = .ok (.ireturn, 1) := by decide +kernel
theorem dX9_meet_0 : decode cX9_meet 0 = .ok (.aload_n 0, 1) := by decide +kernel
theorem dX9_meet_1 : decode cX9_meet 1 = .ok (.getfield 12, 3) := by decide +kernel
theorem dX9_meet_4 : decode cX9_meet 4 = .ok (.iload_n 1, 1) := by decide +kernel
theorem dX9_meet_5 : decode cX9_meet 5 = .ok (.invokevirtual 88, 3) := by decide +kernel
theorem dX9_meet_8 : decode cX9_meet 8 = .ok (.ifCond .eq 14, 3) := by decide +kernel
theorem dX9_meet_11 : decode cX9_meet 11 = .ok (.aload_n 0, 1) := by decide +kernel
theorem dX9_meet_12 : decode cX9_meet 12 = .ok (.getfield 12, 3) := by decide +kernel
theorem dX9_meet_15 : decode cX9_meet 15 = .ok (.iload_n 2, 1) := by decide +kernel
theorem dX9_meet_16 : decode cX9_meet 16 = .ok (.invokevirtual 88, 3) := by decide +kernel
theorem dX9_meet_19 : decode cX9_meet 19 = .ok (.ifCond .ne 5, 3) := by decide +kernel
theorem dX9_meet_22 : decode cX9_meet 22 = .ok (.iconst (-1), 1) := by decide +kernel
theorem dX9_meet_23 : decode cX9_meet 23 = .ok (.ireturn, 1) := by decide +kernel
theorem dX9_meet_24 : decode cX9_meet 24 = .ok (.iload_n 1, 1) := by decide +kernel
theorem dX9_meet_25 : decode cX9_meet 25 = .ok (.iload_n 2, 1) := by decide +kernel
theorem dX9_meet_26 : decode cX9_meet 26 = .ok (.if_icmp .ne 6, 3) := by decide +kernel
theorem dX9_meet_29 : decode cX9_meet 29 = .ok (.bipush (-2), 2) := by decide +kernel
theorem dX9_meet_31 : decode cX9_meet 31 = .ok (.ireturn, 1) := by decide +kernel
theorem dX9_meet_32 : decode cX9_meet 32 = .ok (.aload_n 0, 1) := by decide +kernel
theorem dX9_meet_33 : decode cX9_meet 33 = .ok (.getfield 12, 3) := by decide +kernel
theorem dX9_meet_36 : decode cX9_meet 36 = .ok (.getfield 126, 3) := by decide +kernel
theorem dX9_meet_39 : decode cX9_meet 39 = .ok (.iload_n 1, 1) := by decide +kernel
theorem dX9_meet_40 : decode cX9_meet 40 = .ok (.iaload, 1) := by decide +kernel
theorem dX9_meet_41 : decode cX9_meet 41 = .ok (.aload_n 0, 1) := by decide +kernel
theorem dX9_meet_42 : decode cX9_meet 42 = .ok (.getfield 12, 3) := by decide +kernel
theorem dX9_meet_45 : decode cX9_meet 45 = .ok (.getfield 126, 3) := by decide +kernel
theorem dX9_meet_48 : decode cX9_meet 48 = .ok (.iload_n 2, 1) := by decide +kernel
theorem dX9_meet_49 : decode cX9_meet 49 = .ok (.iaload, 1) := by decide +kernel
theorem dX9_meet_50 : decode cX9_meet 50 = .ok (.iand, 1) := by decide +kernel
theorem dX9_meet_51 : decode cX9_meet 51 = .ok (.ireturn, 1) := by decide +kernel
theorem dX9_who_0 : decode cX9_who 0 = .ok (.iload_n 3, 1) := by decide +kernel
theorem dX9_who_1 : decode cX9_who 1 = .ok (.iconst 0, 1) := by decide +kernel
theorem dX9_who_2 : decode cX9_who 2 = .ok (.iconst 1, 1) := by decide +kernel
theorem dX9_who_3 : decode cX9_who 3 = .ok (.invokestatic 72, 3) := by decide +kernel
theorem dX9_who_6 : decode cX9_who 6 = .ok (.ifCond .ne 5, 3) := by decide +kernel
theorem dX9_who_9 : decode cX9_who 9 = .ok (.iconst (-1), 1) := by decide +kernel
theorem dX9_who_10 : decode cX9_who 10 = .ok (.ireturn, 1) := by decide +kernel
theorem dX9_who_11 : decode cX9_who 11 = .ok (.iload_n 1, 1) := by decide +kernel
theorem dX9_who_12 : decode cX9_who 12 = .ok (.iconst 0, 1) := by decide +kernel
theorem dX9_who_13 : decode cX9_who 13 = .ok (.ldc 202, 2) := by decide +kernel
theorem dX9_who_15 : decode cX9_who 15 = .ok (.invokestatic 72, 3) := by decide +kernel
theorem dX9_who_18 : decode cX9_who 18 = .ok (.ifCond .eq 13, 3) := by decide +kernel
theorem dX9_who_21 : decode cX9_who 21 = .ok (.iload_n 2, 1) := by decide +kernel
theorem dX9_who_22 : decode cX9_who 22 = .ok (.iconst 1, 1) := by decide +kernel
theorem dX9_who_23 : decode cX9_who 23 = .ok (.bipush 20, 2) := by decide +kernel
theorem dX9_who_25 : decode cX9_who 25 = .ok (.invokestatic 72, 3) := by decide +kernel
theorem dX9_who_28 : decode cX9_who 28 = .ok (.ifCond .ne 6, 3) := by decide +kernel
theorem dX9_who_31 : decode cX9_who 31 = .ok (.bipush (-2), 2) := by decide +kernel
theorem dX9_who_33 : decode cX9_who 33 = .ok (.ireturn, 1) := by decide +kernel
theorem dX9_who_34 : decode cX9_who 34 = .ok (.iload_n 3, 1) := by decide +kernel
theorem dX9_who_35 : decode cX9_who 35 = .ok (.ifCond .ne 15, 3) := by decide +kernel
theorem dX9_who_38 : decode cX9_who 38 = .ok (.aload_n 0, 1) := by decide +kernel
theorem dX9_who_39 : decode cX9_who 39 = .ok (.getfield 43, 3) := by decide +kernel
theorem dX9_who_42 : decode cX9_who 42 = .ok (.iload_n 1, 1) := by decide +kernel
theorem dX9_who_43 : decode cX9_who 43 = .ok (.iload_n 2, 1) := by decide +kernel
theorem dX9_who_44 : decode cX9_who 44 = .ok (.invokevirtual 203, 3) := by decide +kernel
theorem dX9_who_47 : decode cX9_who 47 = .ok (.goto 12, 3) := by decide +kernel
theorem dX9_who_50 : decode cX9_who 50 = .ok (.aload_n 0, 1) := by decide +kernel
theorem dX9_who_51 : decode cX9_who 51 = .ok (.getfield 43, 3) := by decide +kernel
theorem dX9_who_54 : decode cX9_who 54 = .ok (.iload_n 1, 1) := by decide +kernel
theorem dX9_who_55 : decode cX9_who 55 = .ok (.iload_n 2, 1) := by decide +kernel
theorem dX9_who_56 : decode cX9_who 56 = .ok (.invokevirtual 206, 3) := by decide +kernel
theorem dX9_who_59 : decode cX9_who 59 = .ok (.ireturn, 1) := by decide +kernel
theorem dX9_best_0 : decode cX9_best 0 = .ok (.iload_n 1, 1) := by decide +kernel
theorem dX9_best_1 : decode cX9_best 1 = .ok (.lookupswitch 43 #[(0, 27), (1, 35)], 27) := by decide +kernel
theorem dX9_best_28 : decode cX9_best 28 = .ok (.aload_n 0, 1) := by decide +kernel
theorem dX9_best_29 : decode cX9_best 29 = .ok (.getfield 43, 3) := by decide +kernel
theorem dX9_best_32 : decode cX9_best 32 = .ok (.invokevirtual 209, 3) := by decide +kernel
theorem dX9_best_35 : decode cX9_best 35 = .ok (.ireturn, 1) := by decide +kernel
theorem dX9_best_36 : decode cX9_best 36 = .ok (.aload_n 0, 1) := by decide +kernel
theorem dX9_best_37 : decode cX9_best 37 = .ok (.getfield 43, 3) := by decide +kernel
theorem dX9_best_40 : decode cX9_best 40 = .ok (.invokevirtual 212, 3) := by decide +kernel
theorem dX9_best_43 : decode cX9_best 43 = .ok (.ireturn, 1) := by decide +kernel
theorem dX9_best_44 : decode cX9_best 44 = .ok (.iconst (-1), 1) := by decide +kernel
theorem dX9_best_45 : decode cX9_best 45 = .ok (.ireturn, 1) := by decide +kernel
theorem dX9_see_0 : decode cX9_see 0 = .ok (.iload_n 1, 1) := by decide +kernel
theorem dX9_see_1 : decode cX9_see 1 = .ok (.iconst (-1), 1) := by decide +kernel
theorem dX9_see_2 : decode cX9_see 2 = .ok (.if_icmp .ne 11, 3) := by decide +kernel
theorem dX9_see_5 : decode cX9_see 5 = .ok (.aload_n 0, 1) := by decide +kernel
theorem dX9_see_6 : decode cX9_see 6 = .ok (.getfield 24, 3) := by decide +kernel
theorem dX9_see_9 : decode cX9_see 9 = .ok (.invokevirtual 215, 3) := by decide +kernel
theorem dX9_see_12 : decode cX9_see 12 = .ok (.ireturn, 1) := by decide +kernel
theorem dX9_see_13 : decode cX9_see 13 = .ok (.iload_n 1, 1) := by decide +kernel
theorem dX9_see_14 : decode cX9_see 14 = .ok (.invokestatic 67, 3) := by decide +kernel
theorem dX9_see_17 : decode cX9_see 17 = .ok (.ifCond .ne 5, 3) := by decide +kernel
theorem dX9_see_20 : decode cX9_see 20 = .ok (.iconst (-1), 1) := by decide +kernel
theorem dX9_see_21 : decode cX9_see 21 = .ok (.ireturn, 1) := by decide +kernel
theorem dX9_see_22 : decode cX9_see 22 = .ok (.iload_n 2, 1) := by decide +kernel
theorem dX9_see_23 : decode cX9_see 23 = .ok (.iconst 0, 1) := by decide +kernel
theorem dX9_see_24 : decode cX9_see 24 = .ok (.sipush 9999, 3) := by decide +kernel
theorem dX9_see_27 : decode cX9_see 27 = .ok (.invokestatic 72, 3) := by decide +kernel
theorem dX9_see_30 : decode cX9_see 30 = .ok (.ifCond .eq 13, 3) := by decide +kernel
theorem dX9_see_33 : decode cX9_see 33 = .ok (.iload_n 3, 1) := by decide +kernel
theorem dX9_see_34 : decode cX9_see 34 = .ok (.iconst 0, 1) := by decide +kernel
theorem dX9_see_35 : decode cX9_see 35 = .ok (.bipush 20, 2) := by decide +kernel
theorem dX9_see_37 : decode cX9_see 37 = .ok (.invokestatic 72, 3) := by decide +kernel
theorem dX9_see_40 : decode cX9_see 40 = .ok (.ifCond .ne 6, 3) := by decide +kernel
theorem dX9_see_43 : decode cX9_see 43 = .ok (.bipush (-2), 2) := by decide +kernel
theorem dX9_see_45 : decode cX9_see 45 = .ok (.ireturn, 1) := by decide +kernel
theorem dX9_see_46 : decode cX9_see 46 = .ok (.aload_n 0, 1) := by decide +kernel
theorem dX9_see_47 : decode cX9_see 47 = .ok (.getfield 24, 3) := by decide +kernel
theorem dX9_see_50 : decode cX9_see 50 = .ok (.iload_n 1, 1) := by decide +kernel
theorem dX9_see_51 : decode cX9_see 51 = .ok (.iload_n 2, 1) := by decide +kernel
theorem dX9_see_52 : decode cX9_see 52 = .ok (.iload_n 3, 1) := by decide +kernel
theorem dX9_see_53 : decode cX9_see 53 = .ok (.invokevirtual 218, 3) := by decide +kernel
theorem dX9_see_56 : decode cX9_see 56 = .ok (.ifCond .eq 13, 3) := by decide +kernel
theorem dX9_see_59 : decode cX9_see 59 = .ok (.aload_n 0, 1) := by decide +kernel
theorem dX9_see_60 : decode cX9_see 60 = .ok (.getfield 24, 3) := by decide +kernel
theorem dX9_see_63 : decode cX9_see 63 = .ok (.getfield 221, 3) := by decide +kernel
theorem dX9_see_66 : decode cX9_see 66 = .ok (.goto 5, 3) := by decide +kernel
theorem dX9_see_69 : decode cX9_see 69 = .ok (.bipush (-4), 2) := by decide +kernel
theorem dX9_see_71 : decode cX9_see 71 = .ok (.ireturn, 1) := by decide +kernel
theorem dX9_starts_0 : decode cX9_starts 0 = .ok (.aload_n 0, 1) := by decide +kernel
theorem dX9_starts_1 : decode cX9_starts 1 = .ok (.getfield 12, 3) := by decide +kernel
theorem dX9_starts_4 : decode cX9_starts 4 = .ok (.iload_n 1, 1) := by decide +kernel
theorem dX9_starts_5 : decode cX9_starts 5 = .ok (.invokevirtual 88, 3) := by decide +kernel
theorem dX9_starts_8 : decode cX9_starts 8 = .ok (.ifCond .eq 14, 3) := by decide +kernel
theorem dX9_starts_11 : decode cX9_starts 11 = .ok (.aload_n 0, 1) := by decide +kernel
theorem dX9_starts_12 : decode cX9_starts 12 = .ok (.getfield 43, 3) := by decide +kernel
theorem dX9_starts_15 : decode cX9_starts 15 = .ok (.iload_n 1, 1) := by decide +kernel
theorem dX9_starts_16 : decode cX9_starts 16 = .ok (.invokevirtual 224, 3) := by decide +kernel
theorem dX9_starts_19 : decode cX9_starts 19 = .ok (.goto 4, 3) := by decide +kernel
theorem dX9_starts_22 : decode cX9_starts 22 = .ok (.iconst (-1), 1) := by decide +kernel
theorem dX9_starts_23 : decode cX9_starts 23 = .ok (.ireturn, 1) := by decide +kernel
theorem dX9_can_0 : decode cX9_can 0 = .ok (.aload_n 0, 1) := by decide +kernel
theorem dX9_can_1 : decode cX9_can 1 = .ok (.getfield 12, 3) := by decide +kernel
theorem dX9_can_4 : decode cX9_can 4 = .ok (.iload_n 1, 1) := by decide +kernel
theorem dX9_can_5 : decode cX9_can 5 = .ok (.invokevirtual 88, 3) := by decide +kernel
theorem dX9_can_8 : decode cX9_can 8 = .ok (.ifCond .eq 12, 3) := by decide +kernel
theorem dX9_can_11 : decode cX9_can 11 = .ok (.iload_n 2, 1) := by decide +kernel
theorem dX9_can_12 : decode cX9_can 12 = .ok (.iconst 0, 1) := by decide +kernel
theorem dX9_can_13 : decode cX9_can 13 = .ok (.iconst 1, 1) := by decide +kernel
theorem dX9_can_14 : decode cX9_can 14 = .ok (.invokestatic 72, 3) := by decide +kernel
theorem dX9_can_17 : decode cX9_can 17 = .ok (.ifCond .ne 5, 3) := by decide +kernel
theorem dX9_can_20 : decode cX9_can 20 = .ok (.iconst (-1), 1) := by decide +kernel
theorem dX9_can_21 : decode cX9_can 21 = .ok (.ireturn, 1) := by decide +kernel
theorem dX9_can_22 : decode cX9_can 22 = .ok (.aload_n 0, 1) := by decide +kernel
theorem dX9_can_23 : decode cX9_can 23 = .ok (.getfield 43, 3) := by decide +kernel
theorem dX9_can_26 : decode cX9_can 26 = .ok (.iload_n 1, 1) := by decide +kernel
theorem dX9_can_27 : decode cX9_can 27 = .ok (.invokevirtual 227, 3) := by decide +kernel
theorem dX9_can_30 : decode cX9_can 30 = .ok (.istore_n 3, 1) := by decide +kernel
theorem dX9_can_31 : decode cX9_can 31 = .ok (.iload_n 2, 1) := by decide +kernel
theorem dX9_can_32 : decode cX9_can 32 = .ok (.ifCond .ne 10, 3) := by decide +kernel
theorem dX9_can_35 : decode cX9_can 35 = .ok (.iload_n 3, 1) := by decide +kernel
theorem dX9_can_36 : decode cX9_can 36 = .ok (.invokestatic 129, 3) := by decide +kernel
theorem dX9_can_39 : decode cX9_can 39 = .ok (.goto 7, 3) := by decide +kernel
theorem dX9_can_42 : decode cX9_can 42 = .ok (.iload_n 3, 1) := by decide +kernel
theorem dX9_can_43 : decode cX9_can 43 = .ok (.invokestatic 230, 3) := by decide +kernel
theorem dX9_can_46 : decode cX9_can 46 = .ok (.ireturn, 1) := by decide +kernel
theorem dX9_sole_0 : decode cX9_sole 0 = .ok (.aload_n 0, 1) := by decide +kernel
theorem dX9_sole_1 : decode cX9_sole 1 = .ok (.getfield 43, 3) := by decide +kernel
theorem dX9_sole_4 : decode cX9_sole 4 = .ok (.invokevirtual 233, 3) := by decide +kernel
theorem dX9_sole_7 : decode cX9_sole 7 = .ok (.ireturn, 1) := by decide +kernel
theorem dX9_odds_0 : decode cX9_odds 0 = .ok (.iload_n 1, 1) := by decide +kernel
theorem dX9_odds_1 : decode cX9_odds 1 = .ok (.invokestatic 67, 3) := by decide +kernel
theorem dX9_odds_4 : decode cX9_odds 4 = .ok (.ifCond .eq 23, 3) := by decide +kernel
theorem dX9_odds_7 : decode cX9_odds 7 = .ok (.iload_n 2, 1) := by decide +kernel
theorem dX9_odds_8 : decode cX9_odds 8 = .ok (.iconst 0, 1) := by decide +kernel
theorem dX9_odds_9 : decode cX9_odds 9 = .ok (.bipush 60, 2) := by decide +kernel
theorem dX9_odds_11 : decode cX9_odds 11 = .ok (.invokestatic 72, 3) := by decide +kernel
theorem dX9_odds_14 : decode cX9_odds 14 = .ok (.ifCond .eq 13, 3) := by decide +kernel
theorem dX9_odds_17 : decode cX9_odds 17 = .ok (.aload_n 0, 1) := by decide +kernel
theorem dX9_odds_18 : decode cX9_odds 18 = .ok (.getfield 12, 3) := by decide +kernel
theorem dX9_odds_21 : decode cX9_odds 21 = .ok (.getfield 76, 3) := by decide +kernel
theorem dX9_odds_24 : decode cX9_odds 24 = .ok (.ifCond .ne 7, 3) := by decide +kernel
theorem dX9_odds_27 : decode cX9_odds 27 = .ok (.ldc2_w 236, 3) := by decide +kernel
theorem dX9_odds_30 : decode cX9_odds 30 = .ok (.lreturn, 1) := by decide +kernel
theorem dX9_odds_31 : decode cX9_odds 31 = .ok (.aload_n 0, 1) := by decide +kernel
theorem dX9_odds_32 : decode cX9_odds 32 = .ok (.getfield 43, 3) := by decide +kernel
theorem dX9_odds_35 : decode cX9_odds 35 = .ok (.iload_n 1, 1) := by decide +kernel
theorem dX9_odds_36 : decode cX9_odds 36 = .ok (.iload_n 2, 1) := by decide +kernel
theorem dX9_odds_37 : decode cX9_odds 37 = .ok (.invokevirtual 238, 3) := by decide +kernel
theorem dX9_odds_40 : decode cX9_odds 40 = .ok (.aload_n 0, 1) := by decide +kernel
theorem dX9_odds_41 : decode cX9_odds 41 = .ok (.getfield 12, 3) := by decide +kernel
theorem dX9_odds_44 : decode cX9_odds 44 = .ok (.getfield 76, 3) := by decide +kernel
theorem dX9_odds_47 : decode cX9_odds 47 = .ok (.iload_n 3, 1) := by decide +kernel
theorem dX9_odds_48 : decode cX9_odds 48 = .ok (.invokestatic 241, 3) := by decide +kernel
theorem dX9_odds_51 : decode cX9_odds 51 = .ok (.lreturn, 1) := by decide +kernel
theorem dX9_mean_0 : decode cX9_mean 0 = .ok (.iload_n 1, 1) := by decide +kernel
theorem dX9_mean_1 : decode cX9_mean 1 = .ok (.iconst 0, 1) := by decide +kernel
theorem dX9_mean_2 : decode cX9_mean 2 = .ok (.bipush 60, 2) := by decide +kernel
theorem dX9_mean_4 : decode cX9_mean 4 = .ok (.invokestatic 72, 3) := by decide +kernel
theorem dX9_mean_7 : decode cX9_mean 7 = .ok (.ifCond .ne 7, 3) := by decide +kernel
theorem dX9_mean_10 : decode cX9_mean 10 = .ok (.ldc2_w 236, 3) := by decide +kernel
theorem dX9_mean_13 : decode cX9_mean 13 = .ok (.lreturn, 1) := by decide +kernel
theorem dX9_mean_14 : decode cX9_mean 14 = .ok (.aload_n 0, 1) := by decide +kernel
theorem dX9_mean_15 : decode cX9_mean 15 = .ok (.getfield 43, 3) := by decide +kernel
theorem dX9_mean_18 : decode cX9_mean 18 = .ok (.iload_n 1, 1) := by decide +kernel
theorem dX9_mean_19 : decode cX9_mean 19 = .ok (.invokevirtual 195, 3) := by decide +kernel
theorem dX9_mean_22 : decode cX9_mean 22 = .ok (.invokevirtual 180, 3) := by decide +kernel
theorem dX9_mean_25 : decode cX9_mean 25 = .ok (.bipush 16, 2) := by decide +kernel
theorem dX9_mean_27 : decode cX9_mean 27 = .ok (.iload_n 2, 1) := by decide +kernel
theorem dX9_mean_28 : decode cX9_mean 28 = .ok (.invokestatic 241, 3) := by decide +kernel
theorem dX9_mean_31 : decode cX9_mean 31 = .ok (.lreturn, 1) := by decide +kernel
theorem dX9_plan_0 : decode cX9_plan 0 = .ok (.iload_n 1, 1) := by decide +kernel
theorem dX9_plan_1 : decode cX9_plan 1 = .ok (.iconst (-1), 1) := by decide +kernel
theorem dX9_plan_2 : decode cX9_plan 2 = .ok (.if_icmp .ne 11, 3) := by decide +kernel
theorem dX9_plan_5 : decode cX9_plan 5 = .ok (.aload_n 0, 1) := by decide +kernel
theorem dX9_plan_6 : decode cX9_plan 6 = .ok (.getfield 24, 3) := by decide +kernel
theorem dX9_plan_9 : decode cX9_plan 9 = .ok (.invokevirtual 245, 3) := by decide +kernel
theorem dX9_plan_12 : decode cX9_plan 12 = .ok (.ireturn, 1) := by decide +kernel
theorem dX9_plan_13 : decode cX9_plan 13 = .ok (.iload_n 1, 1) := by decide +kernel
theorem dX9_plan_14 : decode cX9_plan 14 = .ok (.iconst 0, 1) := by decide +kernel
theorem dX9_plan_15 : decode cX9_plan 15 = .ok (.iconst 3, 1) := by decide +kernel
theorem dX9_plan_16 : decode cX9_plan 16 = .ok (.invokestatic 72, 3) := by decide +kernel
theorem dX9_plan_19 : decode cX9_plan 19 = .ok (.ifCond .ne 5, 3) := by decide +kernel
theorem dX9_plan_22 : decode cX9_plan 22 = .ok (.iconst (-1), 1) := by decide +kernel
theorem dX9_plan_23 : decode cX9_plan 23 = .ok (.ireturn, 1) := by decide +kernel
theorem dX9_plan_24 : decode cX9_plan 24 = .ok (.iload_n 1, 1) := by decide +kernel
theorem dX9_plan_25 : decode cX9_plan 25 = .ok (.iconst 1, 1) := by decide +kernel
theorem dX9_plan_26 : decode cX9_plan 26 = .ok (.if_icmp .ne 16, 3) := by decide +kernel
theorem dX9_plan_29 : decode cX9_plan 29 = .ok (.aload_n 0, 1) := by decide +kernel
theorem dX9_plan_30 : decode cX9_plan 30 = .ok (.getfield 12, 3) := by decide +kernel
theorem dX9_plan_33 : decode cX9_plan 33 = .ok (.iload_n 2, 1) := by decide +kernel
theorem dX9_plan_34 : decode cX9_plan 34 = .ok (.invokevirtual 88, 3) := by decide +kernel
theorem dX9_plan_37 : decode cX9_plan 37 = .ok (.ifCond .ne 5, 3) := by decide +kernel
theorem dX9_plan_40 : decode cX9_plan 40 = .ok (.iconst (-1), 1) := by decide +kernel
theorem dX9_plan_41 : decode cX9_plan 41 = .ok (.ireturn, 1) := by decide +kernel
theorem dX9_plan_42 : decode cX9_plan 42 = .ok (.iload_n 1, 1) := by decide +kernel
theorem dX9_plan_43 : decode cX9_plan 43 = .ok (.iconst 2, 1) := by decide +kernel
theorem dX9_plan_44 : decode cX9_plan 44 = .ok (.if_icmp .lt 12, 3) := by decide +kernel
theorem dX9_plan_47 : decode cX9_plan 47 = .ok (.iload_n 2, 1) := by decide +kernel
theorem dX9_plan_48 : decode cX9_plan 48 = .ok (.invokestatic 67, 3) := by decide +kernel
theorem dX9_plan_51 : decode cX9_plan 51 = .ok (.ifCond .ne 5, 3) := by decide +kernel
theorem dX9_plan_54 : decode cX9_plan 54 = .ok (.iconst (-1), 1) := by decide +kernel
theorem dX9_plan_55 : decode cX9_plan 55 = .ok (.ireturn, 1) := by decide +kernel
theorem dX9_plan_56 : decode cX9_plan 56 = .ok (.aload_n 0, 1) := by decide +kernel
theorem dX9_plan_57 : decode cX9_plan 57 = .ok (.getfield 24, 3) := by decide +kernel
theorem dX9_plan_60 : decode cX9_plan 60 = .ok (.iload_n 1, 1) := by decide +kernel
theorem dX9_plan_61 : decode cX9_plan 61 = .ok (.iload_n 2, 1) := by decide +kernel
theorem dX9_plan_62 : decode cX9_plan 62 = .ok (.invokevirtual 248, 3) := by decide +kernel
theorem dX9_plan_65 : decode cX9_plan 65 = .ok (.ifCond .eq 13, 3) := by decide +kernel
theorem dX9_plan_68 : decode cX9_plan 68 = .ok (.aload_n 0, 1) := by decide +kernel
theorem dX9_plan_69 : decode cX9_plan 69 = .ok (.getfield 24, 3) := by decide +kernel
theorem dX9_plan_72 : decode cX9_plan 72 = .ok (.getfield 251, 3) := by decide +kernel
theorem dX9_plan_75 : decode cX9_plan 75 = .ok (.goto 5, 3) := by decide +kernel
theorem dX9_plan_78 : decode cX9_plan 78 = .ok (.bipush (-4), 2) := by decide +kernel
theorem dX9_plan_80 : decode cX9_plan 80 = .ok (.ireturn, 1) := by decide +kernel
theorem dX9_ends_0 : decode cX9_ends 0 = .ok (.iload_n 1, 1) := by decide +kernel
theorem dX9_ends_1 : decode cX9_ends 1 = .ok (.iconst 0, 1) := by decide +kernel
theorem dX9_ends_2 : decode cX9_ends 2 = .ok (.iconst 1, 1) := by decide +kernel
theorem dX9_ends_3 : decode cX9_ends 3 = .ok (.invokestatic 72, 3) := by decide +kernel
theorem dX9_ends_6 : decode cX9_ends 6 = .ok (.ifCond .ne 5, 3) := by decide +kernel
theorem dX9_ends_9 : decode cX9_ends 9 = .ok (.iconst (-1), 1) := by decide +kernel
theorem dX9_ends_10 : decode cX9_ends 10 = .ok (.ireturn, 1) := by decide +kernel
theorem dX9_ends_11 : decode cX9_ends 11 = .ok (.aload_n 0, 1) := by decide +kernel
theorem dX9_ends_12 : decode cX9_ends 12 = .ok (.getfield 43, 3) := by decide +kernel
theorem dX9_ends_15 : decode cX9_ends 15 = .ok (.invokevirtual 254, 3) := by decide +kernel
theorem dX9_ends_18 : decode cX9_ends 18 = .ok (.astore_n 2, 1) := by decide +kernel
theorem dX9_ends_19 : decode cX9_ends 19 = .ok (.iload_n 1, 1) := by decide +kernel
theorem dX9_ends_20 : decode cX9_ends 20 = .ok (.ifCond .ne 10, 3) := by decide +kernel
theorem dX9_ends_23 : decode cX9_ends 23 = .ok (.aload_n 2, 1) := by decide +kernel
theorem dX9_ends_24 : decode cX9_ends 24 = .ok (.invokevirtual 180, 3) := by decide +kernel
theorem dX9_ends_27 : decode cX9_ends 27 = .ok (.goto 10, 3) := by decide +kernel
theorem dX9_ends_30 : decode cX9_ends 30 = .ok (.aload_n 2, 1) := by decide +kernel
theorem dX9_ends_31 : decode cX9_ends 31 = .ok (.invokevirtual 177, 3) := by decide +kernel
theorem dX9_ends_34 : decode cX9_ends 34 = .ok (.invokestatic 129, 3) := by decide +kernel
theorem dX9_ends_37 : decode cX9_ends 37 = .ok (.ireturn, 1) := by decide +kernel
theorem dX9_book_0 : decode cX9_book 0 = .ok (.iload_n 1, 1) := by decide +kernel
theorem dX9_book_1 : decode cX9_book 1 = .ok (.iconst (-1), 1) := by decide +kernel
theorem dX9_book_2 : decode cX9_book 2 = .ok (.if_icmp .ne 11, 3) := by decide +kernel
theorem dX9_book_5 : decode cX9_book 5 = .ok (.aload_n 0, 1) := by decide +kernel
theorem dX9_book_6 : decode cX9_book 6 = .ok (.getfield 24, 3) := by decide +kernel
theorem dX9_book_9 : decode cX9_book 9 = .ok (.invokevirtual 258, 3) := by decide +kernel
theorem dX9_book_12 : decode cX9_book 12 = .ok (.ireturn, 1) := by decide +kernel
theorem dX9_book_13 : decode cX9_book 13 = .ok (.iload_n 1, 1) := by decide +kernel
theorem dX9_book_14 : decode cX9_book 14 = .ok (.invokestatic 67, 3) := by decide +kernel
theorem dX9_book_17 : decode cX9_book 17 = .ok (.ifCond .ne 5, 3) := by decide +kernel
theorem dX9_book_20 : decode cX9_book 20 = .ok (.iconst (-1), 1) := by decide +kernel
theorem dX9_book_21 : decode cX9_book 21 = .ok (.ireturn, 1) := by decide +kernel
theorem dX9_book_22 : decode cX9_book 22 = .ok (.iload_n 2, 1) := by decide +kernel
theorem dX9_book_23 : decode cX9_book 23 = .ok (.iconst 0, 1) := by decide +kernel
theorem dX9_book_24 : decode cX9_book 24 = .ok (.sipush 9999, 3) := by decide +kernel
theorem dX9_book_27 : decode cX9_book 27 = .ok (.invokestatic 72, 3) := by decide +kernel
theorem dX9_book_30 : decode cX9_book 30 = .ok (.ifCond .ne 6, 3) := by decide +kernel
theorem dX9_book_33 : decode cX9_book 33 = .ok (.bipush (-2), 2) := by decide +kernel
theorem dX9_book_35 : decode cX9_book 35 = .ok (.ireturn, 1) := by decide +kernel
theorem dX9_book_36 : decode cX9_book 36 = .ok (.aload_n 0, 1) := by decide +kernel
theorem dX9_book_37 : decode cX9_book 37 = .ok (.getfield 24, 3) := by decide +kernel
theorem dX9_book_40 : decode cX9_book 40 = .ok (.iload_n 1, 1) := by decide +kernel
theorem dX9_book_41 : decode cX9_book 41 = .ok (.iload_n 2, 1) := by decide +kernel
theorem dX9_book_42 : decode cX9_book 42 = .ok (.invokevirtual 261, 3) := by decide +kernel
theorem dX9_book_45 : decode cX9_book 45 = .ok (.ifCond .eq 13, 3) := by decide +kernel
theorem dX9_book_48 : decode cX9_book 48 = .ok (.aload_n 0, 1) := by decide +kernel
theorem dX9_book_49 : decode cX9_book 49 = .ok (.getfield 24, 3) := by decide +kernel
theorem dX9_book_52 : decode cX9_book 52 = .ok (.getfield 264, 3) := by decide +kernel
theorem dX9_book_55 : decode cX9_book 55 = .ok (.goto 5, 3) := by decide +kernel
theorem dX9_book_58 : decode cX9_book 58 = .ok (.bipush (-4), 2) := by decide +kernel
theorem dX9_book_60 : decode cX9_book 60 = .ok (.ireturn, 1) := by decide +kernel
theorem dX9_looked_0 : decode cX9_looked 0 = .ok (.aload_n 0, 1) := by decide +kernel
theorem dX9_looked_1 : decode cX9_looked 1 = .ok (.getfield 24, 3) := by decide +kernel
theorem dX9_looked_4 : decode cX9_looked 4 = .ok (.aload_n 0, 1) := by decide +kernel
theorem dX9_looked_5 : decode cX9_looked 5 = .ok (.getfield 12, 3) := by decide +kernel
theorem dX9_looked_8 : decode cX9_looked 8 = .ok (.invokevirtual 267, 3) := by decide +kernel
theorem dX9_looked_11 : decode cX9_looked 11 = .ok (.ireturn, 1) := by decide +kernel
theorem dX9_judge_0 : decode cX9_judge 0 = .ok (.iload_n 1, 1) := by decide +kernel
theorem dX9_judge_1 : decode cX9_judge 1 = .ok (.invokestatic 271, 3) := by decide +kernel
theorem dX9_judge_4 : decode cX9_judge 4 = .ok (.ifCond .ne 5, 3) := by decide +kernel
theorem dX9_judge_7 : decode cX9_judge 7 = .ok (.iconst (-1), 1) := by decide +kernel
theorem dX9_judge_8 : decode cX9_judge 8 = .ok (.ireturn, 1) := by decide +kernel
theorem dX9_judge_9 : decode cX9_judge 9 = .ok (.aload_n 0, 1) := by decide +kernel
theorem dX9_judge_10 : decode cX9_judge 10 = .ok (.getfield 57, 3) := by decide +kernel
theorem dX9_judge_13 : decode cX9_judge 13 = .ok (.iload_n 1, 1) := by decide +kernel
theorem dX9_judge_14 : decode cX9_judge 14 = .ok (.invokevirtual 274, 3) := by decide +kernel
theorem dX9_judge_17 : decode cX9_judge 17 = .ok (.ifCond .eq 6, 3) := by decide +kernel
theorem dX9_judge_20 : decode cX9_judge 20 = .ok (.bipush 100, 2) := by decide +kernel
theorem dX9_judge_22 : decode cX9_judge 22 = .ok (.ireturn, 1) := by decide +kernel
theorem dX9_judge_23 : decode cX9_judge 23 = .ok (.aload_n 0, 1) := by decide +kernel
theorem dX9_judge_24 : decode cX9_judge 24 = .ok (.getfield 57, 3) := by decide +kernel
theorem dX9_judge_27 : decode cX9_judge 27 = .ok (.iload_n 1, 1) := by decide +kernel
theorem dX9_judge_28 : decode cX9_judge 28 = .ok (.invokevirtual 277, 3) := by decide +kernel
theorem dX9_judge_31 : decode cX9_judge 31 = .ok (.iconst 1, 1) := by decide +kernel
theorem dX9_judge_32 : decode cX9_judge 32 = .ok (.if_icmp .eq 6, 3) := by decide +kernel
theorem dX9_judge_35 : decode cX9_judge 35 = .ok (.bipush (-12), 2) := by decide +kernel
theorem dX9_judge_37 : decode cX9_judge 37 = .ok (.ireturn, 1) := by decide +kernel
theorem dX9_judge_38 : decode cX9_judge 38 = .ok (.iconst 0, 1) := by decide +kernel
theorem dX9_judge_39 : decode cX9_judge 39 = .ok (.istore_n 3, 1) := by decide +kernel
theorem dX9_judge_40 : decode cX9_judge 40 = .ok (.iload_n 3, 1) := by decide +kernel
theorem dX9_judge_41 : decode cX9_judge 41 = .ok (.bipush 16, 2) := by decide +kernel
theorem dX9_judge_43 : decode cX9_judge 43 = .ok (.if_icmp .ge 55, 3) := by decide +kernel
theorem dX9_judge_46 : decode cX9_judge 46 = .ok (.aload_n 0, 1) := by decide +kernel
theorem dX9_judge_47 : decode cX9_judge 47 = .ok (.getfield 57, 3) := by decide +kernel
theorem dX9_judge_50 : decode cX9_judge 50 = .ok (.iload_n 1, 1) := by decide +kernel
theorem dX9_judge_51 : decode cX9_judge 51 = .ok (.iload_n 2, 1) := by decide +kernel
theorem dX9_judge_52 : decode cX9_judge 52 = .ok (.iload_n 3, 1) := by decide +kernel
theorem dX9_judge_53 : decode cX9_judge 53 = .ok (.iadd, 1) := by decide +kernel
theorem dX9_judge_54 : decode cX9_judge 54 = .ok (.invokevirtual 280, 3) := by decide +kernel
theorem dX9_judge_57 : decode cX9_judge 57 = .ok (.ifCond .ne 8, 3) := by decide +kernel
theorem dX9_judge_60 : decode cX9_judge 60 = .ok (.bipush 100, 2) := by decide +kernel
theorem dX9_judge_62 : decode cX9_judge 62 = .ok (.iload_n 3, 1) := by decide +kernel
theorem dX9_judge_63 : decode cX9_judge 63 = .ok (.iadd, 1) := by decide +kernel
theorem dX9_judge_64 : decode cX9_judge 64 = .ok (.ireturn, 1) := by decide +kernel
theorem dX9_judge_65 : decode cX9_judge 65 = .ok (.aload_n 0, 1) := by decide +kernel
theorem dX9_judge_66 : decode cX9_judge 66 = .ok (.getfield 57, 3) := by decide +kernel
theorem dX9_judge_69 : decode cX9_judge 69 = .ok (.iload_n 1, 1) := by decide +kernel
theorem dX9_judge_70 : decode cX9_judge 70 = .ok (.iload_n 2, 1) := by decide +kernel
theorem dX9_judge_71 : decode cX9_judge 71 = .ok (.iload_n 3, 1) := by decide +kernel
theorem dX9_judge_72 : decode cX9_judge 72 = .ok (.iadd, 1) := by decide +kernel
theorem dX9_judge_73 : decode cX9_judge 73 = .ok (.invokevirtual 283, 3) := by decide +kernel
theorem dX9_judge_76 : decode cX9_judge 76 = .ok (.aload_n 0, 1) := by decide +kernel
theorem dX9_judge_77 : decode cX9_judge 77 = .ok (.getfield 12, 3) := by decide +kernel
theorem dX9_judge_80 : decode cX9_judge 80 = .ok (.getfield 133, 3) := by decide +kernel
theorem dX9_judge_83 : decode cX9_judge 83 = .ok (.iload_n 3, 1) := by decide +kernel
theorem dX9_judge_84 : decode cX9_judge 84 = .ok (.iaload, 1) := by decide +kernel
theorem dX9_judge_85 : decode cX9_judge 85 = .ok (.i2l, 1) := by decide +kernel
theorem dX9_judge_86 : decode cX9_judge 86 = .ok (.lcmp, 1) := by decide +kernel
theorem dX9_judge_87 : decode cX9_judge 87 = .ok (.ifCond .eq 5, 3) := by decide +kernel
theorem dX9_judge_90 : decode cX9_judge 90 = .ok (.iload_n 3, 1) := by decide +kernel
theorem dX9_judge_91 : decode cX9_judge 91 = .ok (.ireturn, 1) := by decide +kernel
theorem dX9_judge_92 : decode cX9_judge 92 = .ok (.iinc 3 1, 3) := by decide +kernel
theorem dX9_judge_95 : decode cX9_judge 95 = .ok (.goto (-55), 3) := by decide +kernel
theorem dX9_judge_98 : decode cX9_judge 98 = .ok (.bipush (-5), 2) := by decide +kernel
theorem dX9_judge_100 : decode cX9_judge 100 = .ok (.ireturn, 1) := by decide +kernel
theorem dX9_image_0 : decode cX9_image 0 = .ok (.aload_n 0, 1) := by decide +kernel
theorem dX9_image_1 : decode cX9_image 1 = .ok (.getfield 18, 3) := by decide +kernel
theorem dX9_image_4 : decode cX9_image 4 = .ok (.aload_n 0, 1) := by decide +kernel
theorem dX9_image_5 : decode cX9_image 5 = .ok (.getfield 12, 3) := by decide +kernel
theorem dX9_image_8 : decode cX9_image 8 = .ok (.invokevirtual 287, 3) := by decide +kernel
theorem dX9_image_11 : decode cX9_image 11 = .ok (.aload_n 0, 1) := by decide +kernel
theorem dX9_image_12 : decode cX9_image 12 = .ok (.getfield 28, 3) := by decide +kernel
theorem dX9_image_15 : decode cX9_image 15 = .ok (.aload_n 0, 1) := by decide +kernel
theorem dX9_image_16 : decode cX9_image 16 = .ok (.getfield 24, 3) := by decide +kernel
theorem dX9_image_19 : decode cX9_image 19 = .ok (.invokevirtual 291, 3) := by decide +kernel
theorem dX9_image_22 : decode cX9_image 22 = .ok (.aload_n 0, 1) := by decide +kernel
theorem dX9_image_23 : decode cX9_image 23 = .ok (.iconst 1, 1) := by decide +kernel
theorem dX9_image_24 : decode cX9_image 24 = .ok (.putfield 294, 3) := by decide +kernel
theorem dX9_image_27 : decode cX9_image 27 = .ok (.aload_n 0, 1) := by decide +kernel
theorem dX9_image_28 : decode cX9_image 28 = .ok (.getfield 12, 3) := by decide +kernel
theorem dX9_image_31 : decode cX9_image 31 = .ok (.getfield 76, 3) := by decide +kernel
theorem dX9_image_34 : decode cX9_image 34 = .ok (.ireturn, 1) := by decide +kernel
theorem dX9_undo_0 : decode cX9_undo 0 = .ok (.aload_n 0, 1) := by decide +kernel
theorem dX9_undo_1 : decode cX9_undo 1 = .ok (.getfield 294, 3) := by decide +kernel
theorem dX9_undo_4 : decode cX9_undo 4 = .ok (.ifCond .ne 6, 3) := by decide +kernel
theorem dX9_undo_7 : decode cX9_undo 7 = .ok (.bipush (-3), 2) := by decide +kernel
theorem dX9_undo_9 : decode cX9_undo 9 = .ok (.ireturn, 1) := by decide +kernel
theorem dX9_undo_10 : decode cX9_undo 10 = .ok (.aload_n 0, 1) := by decide +kernel
theorem dX9_undo_11 : decode cX9_undo 11 = .ok (.getfield 12, 3) := by decide +kernel
theorem dX9_undo_14 : decode cX9_undo 14 = .ok (.aload_n 0, 1) := by decide +kernel
theorem dX9_undo_15 : decode cX9_undo 15 = .ok (.getfield 18, 3) := by decide +kernel
theorem dX9_undo_18 : decode cX9_undo 18 = .ok (.invokevirtual 287, 3) := by decide +kernel
theorem dX9_undo_21 : decode cX9_undo 21 = .ok (.aload_n 0, 1) := by decide +kernel
theorem dX9_undo_22 : decode cX9_undo 22 = .ok (.getfield 24, 3) := by decide +kernel
theorem dX9_undo_25 : decode cX9_undo 25 = .ok (.aload_n 0, 1) := by decide +kernel
theorem dX9_undo_26 : decode cX9_undo 26 = .ok (.getfield 28, 3) := by decide +kernel
theorem dX9_undo_29 : decode cX9_undo 29 = .ok (.invokevirtual 291, 3) := by decide +kernel
theorem dX9_undo_32 : decode cX9_undo 32 = .ok (.aload_n 0, 1) := by decide +kernel
theorem dX9_undo_33 : decode cX9_undo 33 = .ok (.getfield 12, 3) := by decide +kernel
theorem dX9_undo_36 : decode cX9_undo 36 = .ok (.getfield 76, 3) := by decide +kernel
theorem dX9_undo_39 : decode cX9_undo 39 = .ok (.ireturn, 1) := by decide +kernel
theorem dX9_act_0 : decode cX9_act 0 = .ok (.aload_n 0, 1) := by decide +kernel
theorem dX9_act_1 : decode cX9_act 1 = .ok (.getfield 50, 3) := by decide +kernel
theorem dX9_act_4 : decode cX9_act 4 = .ok (.invokevirtual 298, 3) := by decide +kernel
theorem dX9_act_7 : decode cX9_act 7 = .ok (.aload_n 0, 1) := by decide +kernel
theorem dX9_act_8 : decode cX9_act 8 = .ok (.getfield 12, 3) := by decide +kernel
theorem dX9_act_11 : decode cX9_act 11 = .ok (.iload_n 1, 1) := by decide +kernel
theorem dX9_act_12 : decode cX9_act 12 = .ok (.invokevirtual 88, 3) := by decide +kernel
theorem dX9_act_15 : decode cX9_act 15 = .ok (.ifCond .eq 10, 3) := by decide +kernel
theorem dX9_act_18 : decode cX9_act 18 = .ok (.iload_n 2, 1) := by decide +kernel
theorem dX9_act_19 : decode cX9_act 19 = .ok (.invokestatic 301, 3) := by decide +kernel
theorem dX9_act_22 : decode cX9_act 22 = .ok (.ifCond .ne 5, 3) := by decide +kernel
theorem dX9_act_25 : decode cX9_act 25 = .ok (.iconst 0, 1) := by decide +kernel
theorem dX9_act_26 : decode cX9_act 26 = .ok (.ireturn, 1) := by decide +kernel
theorem dX9_act_27 : decode cX9_act 27 = .ok (.aload_n 0, 1) := by decide +kernel
theorem dX9_act_28 : decode cX9_act 28 = .ok (.getfield 50, 3) := by decide +kernel
theorem dX9_act_31 : decode cX9_act 31 = .ok (.iload_n 1, 1) := by decide +kernel
theorem dX9_act_32 : decode cX9_act 32 = .ok (.aload_n 0, 1) := by decide +kernel
theorem dX9_act_33 : decode cX9_act 33 = .ok (.getfield 12, 3) := by decide +kernel
theorem dX9_act_36 : decode cX9_act 36 = .ok (.getfield 107, 3) := by decide +kernel
theorem dX9_act_39 : decode cX9_act 39 = .ok (.iload_n 1, 1) := by decide +kernel
theorem dX9_act_40 : decode cX9_act 40 = .ok (.iaload, 1) := by decide +kernel
theorem dX9_act_41 : decode cX9_act 41 = .ok (.aload_n 0, 1) := by decide +kernel
theorem dX9_act_42 : decode cX9_act 42 = .ok (.getfield 12, 3) := by decide +kernel
theorem dX9_act_45 : decode cX9_act 45 = .ok (.getfield 110, 3) := by decide +kernel
theorem dX9_act_48 : decode cX9_act 48 = .ok (.iload_n 1, 1) := by decide +kernel
theorem dX9_act_49 : decode cX9_act 49 = .ok (.iaload, 1) := by decide +kernel
theorem dX9_act_50 : decode cX9_act 50 = .ok (.iload_n 2, 1) := by decide +kernel
theorem dX9_act_51 : decode cX9_act 51 = .ok (.iload_n 3, 1) := by decide +kernel
theorem dX9_act_52 : decode cX9_act 52 = .ok (.invokevirtual 304, 3) := by decide +kernel
theorem dX9_act_55 : decode cX9_act 55 = .ok (.ireturn, 1) := by decide +kernel
theorem dX9_trace_0 : decode cX9_trace 0 = .ok (.aload_n 0, 1) := by decide +kernel
theorem dX9_trace_1 : decode cX9_trace 1 = .ok (.getfield 50, 3) := by decide +kernel
theorem dX9_trace_4 : decode cX9_trace 4 = .ok (.iload_n 1, 1) := by decide +kernel
theorem dX9_trace_5 : decode cX9_trace 5 = .ok (.invokevirtual 308, 3) := by decide +kernel
theorem dX9_trace_8 : decode cX9_trace 8 = .ok (.ireturn, 1) := by decide +kernel
theorem dX9_taken_0 : decode cX9_taken 0 = .ok (.iload_n 2, 1) := by decide +kernel
theorem dX9_taken_1 : decode cX9_taken 1 = .ok (.invokestatic 61, 3) := by decide +kernel
theorem dX9_taken_4 : decode cX9_taken 4 = .ok (.ifCond .ne 6, 3) := by decide +kernel
theorem dX9_taken_7 : decode cX9_taken 7 = .ok (.bipush (-2), 2) := by decide +kernel
theorem dX9_taken_9 : decode cX9_taken 9 = .ok (.ireturn, 1) := by decide +kernel
theorem dX9_taken_10 : decode cX9_taken 10 = .ok (.aload_n 0, 1) := by decide +kernel
theorem dX9_taken_11 : decode cX9_taken 11 = .ok (.getfield 12, 3) := by decide +kernel
theorem dX9_taken_14 : decode cX9_taken 14 = .ok (.iload_n 1, 1) := by decide +kernel
theorem dX9_taken_15 : decode cX9_taken 15 = .ok (.invokevirtual 88, 3) := by decide +kernel
theorem dX9_taken_18 : decode cX9_taken 18 = .ok (.ifCond .ne 6, 3) := by decide +kernel
theorem dX9_taken_21 : decode cX9_taken 21 = .ok (.bipush (-11), 2) := by decide +kernel
theorem dX9_taken_23 : decode cX9_taken 23 = .ok (.ireturn, 1) := by decide +kernel
theorem dX9_taken_24 : decode cX9_taken 24 = .ok (.aload_n 0, 1) := by decide +kernel
theorem dX9_taken_25 : decode cX9_taken 25 = .ok (.getfield 12, 3) := by decide +kernel
theorem dX9_taken_28 : decode cX9_taken 28 = .ok (.getfield 107, 3) := by decide +kernel
theorem dX9_taken_31 : decode cX9_taken 31 = .ok (.iload_n 1, 1) := by decide +kernel
theorem dX9_taken_32 : decode cX9_taken 32 = .ok (.iaload, 1) := by decide +kernel
theorem dX9_taken_33 : decode cX9_taken 33 = .ok (.istore_n 3, 1) := by decide +kernel
theorem dX9_taken_34 : decode cX9_taken 34 = .ok (.iload_n 3, 1) := by decide +kernel
theorem dX9_taken_35 : decode cX9_taken 35 = .ok (.iload_n 2, 1) := by decide +kernel
theorem dX9_taken_36 : decode cX9_taken 36 = .ok (.invokestatic 311, 3) := by decide +kernel
theorem dX9_taken_39 : decode cX9_taken 39 = .ok (.ifCond .eq 7, 3) := by decide +kernel
theorem dX9_taken_42 : decode cX9_taken 42 = .ok (.iload_n 3, 1) := by decide +kernel
theorem dX9_taken_43 : decode cX9_taken 43 = .ok (.goto 5, 3) := by decide +kernel
theorem dX9_taken_46 : decode cX9_taken 46 = .ok (.bipush (-12), 2) := by decide +kernel
theorem dX9_taken_48 : decode cX9_taken 48 = .ok (.ireturn, 1) := by decide +kernel
theorem dX9_count_0 : decode cX9_count 0 = .ok (.iload_n 1, 1) := by decide +kernel
theorem dX9_count_1 : decode cX9_count 1 = .ok (.tableswitch 99 0 6 #[43, 51, 59, 67, 75, 83, 91], 43) := by decide +kernel
theorem dX9_count_44 : decode cX9_count 44 = .ok (.aload_n 0, 1) := by decide +kernel
theorem dX9_count_45 : decode cX9_count 45 = .ok (.getfield 12, 3) := by decide +kernel
theorem dX9_count_48 : decode cX9_count 48 = .ok (.getfield 76, 3) := by decide +kernel
theorem dX9_count_51 : decode cX9_count 51 = .ok (.ireturn, 1) := by decide +kernel
theorem dX9_count_52 : decode cX9_count 52 = .ok (.aload_n 0, 1) := by decide +kernel
theorem dX9_count_53 : decode cX9_count 53 = .ok (.getfield 34, 3) := by decide +kernel
theorem dX9_count_56 : decode cX9_count 56 = .ok (.invokevirtual 314, 3) := by decide +kernel
theorem dX9_count_59 : decode cX9_count 59 = .ok (.ireturn, 1) := by decide +kernel
theorem dX9_count_60 : decode cX9_count 60 = .ok (.aload_n 0, 1) := by decide +kernel
theorem dX9_count_61 : decode cX9_count 61 = .ok (.getfield 24, 3) := by decide +kernel
theorem dX9_count_64 : decode cX9_count 64 = .ok (.getfield 221, 3) := by decide +kernel
theorem dX9_count_67 : decode cX9_count 67 = .ok (.ireturn, 1) := by decide +kernel
theorem dX9_count_68 : decode cX9_count 68 = .ok (.aload_n 0, 1) := by decide +kernel
theorem dX9_count_69 : decode cX9_count 69 = .ok (.getfield 24, 3) := by decide +kernel
theorem dX9_count_72 : decode cX9_count 72 = .ok (.getfield 251, 3) := by decide +kernel
theorem dX9_count_75 : decode cX9_count 75 = .ok (.ireturn, 1) := by decide +kernel
theorem dX9_count_76 : decode cX9_count 76 = .ok (.aload_n 0, 1) := by decide +kernel
theorem dX9_count_77 : decode cX9_count 77 = .ok (.getfield 24, 3) := by decide +kernel
theorem dX9_count_80 : decode cX9_count 80 = .ok (.getfield 264, 3) := by decide +kernel
theorem dX9_count_83 : decode cX9_count 83 = .ok (.ireturn, 1) := by decide +kernel
theorem dX9_count_84 : decode cX9_count 84 = .ok (.aload_n 0, 1) := by decide +kernel
theorem dX9_count_85 : decode cX9_count 85 = .ok (.getfield 34, 3) := by decide +kernel
theorem dX9_count_88 : decode cX9_count 88 = .ok (.invokevirtual 159, 3) := by decide +kernel
theorem dX9_count_91 : decode cX9_count 91 = .ok (.ireturn, 1) := by decide +kernel
theorem dX9_count_92 : decode cX9_count 92 = .ok (.aload_n 0, 1) := by decide +kernel
theorem dX9_count_93 : decode cX9_count 93 = .ok (.getfield 50, 3) := by decide +kernel
theorem dX9_count_96 : decode cX9_count 96 = .ok (.invokevirtual 316, 3) := by decide +kernel
theorem dX9_count_99 : decode cX9_count 99 = .ok (.ireturn, 1) := by decide +kernel
theorem dX9_count_100 : decode cX9_count 100 = .ok (.bipush (-2), 2) := by decide +kernel
theorem dX9_count_102 : decode cX9_count 102 = .ok (.ireturn, 1) := by decide +kernel
theorem dX9_tape_0 : decode cX9_tape 0 = .ok (.iload_n 1, 1) := by decide +kernel
theorem dX9_tape_1 : decode cX9_tape 1 = .ok (.invokestatic 271, 3) := by decide +kernel
theorem dX9_tape_4 : decode cX9_tape 4 = .ok (.ifCond .ne 5, 3) := by decide +kernel
theorem dX9_tape_7 : decode cX9_tape 7 = .ok (.iconst (-1), 1) := by decide +kernel
theorem dX9_tape_8 : decode cX9_tape 8 = .ok (.ireturn, 1) := by decide +kernel
theorem dX9_tape_9 : decode cX9_tape 9 = .ok (.iload_n 2, 1) := by decide +kernel
theorem dX9_tape_10 : decode cX9_tape 10 = .ok (.iconst (-1), 1) := by decide +kernel
theorem dX9_tape_11 : decode cX9_tape 11 = .ok (.iconst 4, 1) := by decide +kernel
theorem dX9_tape_12 : decode cX9_tape 12 = .ok (.invokestatic 72, 3) := by decide +kernel
theorem dX9_tape_15 : decode cX9_tape 15 = .ok (.ifCond .ne 6, 3) := by decide +kernel
theorem dX9_tape_18 : decode cX9_tape 18 = .ok (.bipush (-2), 2) := by decide +kernel
theorem dX9_tape_20 : decode cX9_tape 20 = .ok (.ireturn, 1) := by decide +kernel
theorem dX9_tape_21 : decode cX9_tape 21 = .ok (.iload_n 2, 1) := by decide +kernel
theorem dX9_tape_22 : decode cX9_tape 22 = .ok (.iconst (-1), 1) := by decide +kernel
theorem dX9_tape_23 : decode cX9_tape 23 = .ok (.if_icmp .eq 12, 3) := by decide +kernel
theorem dX9_tape_26 : decode cX9_tape 26 = .ok (.iload_n 3, 1) := by decide +kernel
theorem dX9_tape_27 : decode cX9_tape 27 = .ok (.bipush 60, 2) := by decide +kernel
theorem dX9_tape_29 : decode cX9_tape 29 = .ok (.if_icmp .le 6, 3) := by decide +kernel
theorem dX9_tape_32 : decode cX9_tape 32 = .ok (.bipush (-2), 2) := by decide +kernel
theorem dX9_tape_34 : decode cX9_tape 34 = .ok (.ireturn, 1) := by decide +kernel
theorem dX9_tape_35 : decode cX9_tape 35 = .ok (.iload_n 2, 1) := by decide +kernel
theorem dX9_tape_36 : decode cX9_tape 36 = .ok (.iconst (-1), 1) := by decide +kernel
theorem dX9_tape_37 : decode cX9_tape 37 = .ok (.if_icmp .eq 10, 3) := by decide +kernel
theorem dX9_tape_40 : decode cX9_tape 40 = .ok (.iload_n 3, 1) := by decide +kernel
theorem dX9_tape_41 : decode cX9_tape 41 = .ok (.ifCond .ge 6, 3) := by decide +kernel
theorem dX9_tape_44 : decode cX9_tape 44 = .ok (.bipush (-14), 2) := by decide +kernel
theorem dX9_tape_46 : decode cX9_tape 46 = .ok (.ireturn, 1) := by decide +kernel
theorem dX9_tape_47 : decode cX9_tape 47 = .ok (.aload_n 0, 1) := by decide +kernel
theorem dX9_tape_48 : decode cX9_tape 48 = .ok (.getfield 57, 3) := by decide +kernel
theorem dX9_tape_51 : decode cX9_tape 51 = .ok (.iload_n 1, 1) := by decide +kernel
theorem dX9_tape_52 : decode cX9_tape 52 = .ok (.iload_n 2, 1) := by decide +kernel
theorem dX9_tape_53 : decode cX9_tape 53 = .ok (.iload_n 3, 1) := by decide +kernel
theorem dX9_tape_54 : decode cX9_tape 54 = .ok (.invokevirtual 319, 3) := by decide +kernel
theorem dX9_tape_57 : decode cX9_tape 57 = .ok (.iconst 1, 1) := by decide +kernel
theorem dX9_tape_58 : decode cX9_tape 58 = .ok (.ireturn, 1) := by decide +kernel
theorem dX9_item_0 : decode cX9_item 0 = .ok (.iload_n 1, 1) := by decide +kernel
theorem dX9_item_1 : decode cX9_item 1 = .ok (.invokestatic 271, 3) := by decide +kernel
theorem dX9_item_4 : decode cX9_item 4 = .ok (.ifCond .ne 5, 3) := by decide +kernel
theorem dX9_item_7 : decode cX9_item 7 = .ok (.iconst (-1), 1) := by decide +kernel
theorem dX9_item_8 : decode cX9_item 8 = .ok (.ireturn, 1) := by decide +kernel
theorem dX9_item_9 : decode cX9_item 9 = .ok (.aload_n 0, 1) := by decide +kernel
theorem dX9_item_10 : decode cX9_item 10 = .ok (.getfield 57, 3) := by decide +kernel
theorem dX9_item_13 : decode cX9_item 13 = .ok (.iload_n 1, 1) := by decide +kernel
theorem dX9_item_14 : decode cX9_item 14 = .ok (.invokevirtual 274, 3) := by decide +kernel
theorem dX9_item_17 : decode cX9_item 17 = .ok (.ifCond .eq 6, 3) := by decide +kernel
theorem dX9_item_20 : decode cX9_item 20 = .ok (.bipush (-11), 2) := by decide +kernel
theorem dX9_item_22 : decode cX9_item 22 = .ok (.ireturn, 1) := by decide +kernel
theorem dX9_item_23 : decode cX9_item 23 = .ok (.aload_n 0, 1) := by decide +kernel
theorem dX9_item_24 : decode cX9_item 24 = .ok (.getfield 57, 3) := by decide +kernel
theorem dX9_item_27 : decode cX9_item 27 = .ok (.iload_n 1, 1) := by decide +kernel
theorem dX9_item_28 : decode cX9_item 28 = .ok (.iload_n 2, 1) := by decide +kernel
theorem dX9_item_29 : decode cX9_item 29 = .ok (.invokevirtual 280, 3) := by decide +kernel
theorem dX9_item_32 : decode cX9_item 32 = .ok (.ifCond .ne 6, 3) := by decide +kernel
theorem dX9_item_35 : decode cX9_item 35 = .ok (.bipush (-13), 2) := by decide +kernel
theorem dX9_item_37 : decode cX9_item 37 = .ok (.ireturn, 1) := by decide +kernel
theorem dX9_item_38 : decode cX9_item 38 = .ok (.aload_n 0, 1) := by decide +kernel
theorem dX9_item_39 : decode cX9_item 39 = .ok (.getfield 57, 3) := by decide +kernel
theorem dX9_item_42 : decode cX9_item 42 = .ok (.iload_n 1, 1) := by decide +kernel
theorem dX9_item_43 : decode cX9_item 43 = .ok (.iload_n 2, 1) := by decide +kernel
theorem dX9_item_44 : decode cX9_item 44 = .ok (.lload_n 3, 1) := by decide +kernel
theorem dX9_item_45 : decode cX9_item 45 = .ok (.invokevirtual 323, 3) := by decide +kernel
theorem dX9_item_48 : decode cX9_item 48 = .ok (.iconst 1, 1) := by decide +kernel
theorem dX9_item_49 : decode cX9_item 49 = .ok (.ireturn, 1) := by decide +kernel
theorem dX9_read_0 : decode cX9_read 0 = .ok (.aload_n 0, 1) := by decide +kernel
theorem dX9_read_1 : decode cX9_read 1 = .ok (.getfield 57, 3) := by decide +kernel
theorem dX9_read_4 : decode cX9_read 4 = .ok (.iload_n 1, 1) := by decide +kernel
theorem dX9_read_5 : decode cX9_read 5 = .ok (.iload_n 2, 1) := by decide +kernel
theorem dX9_read_6 : decode cX9_read 6 = .ok (.invokevirtual 280, 3) := by decide +kernel
theorem dX9_read_9 : decode cX9_read 9 = .ok (.ifCond .eq 15, 3) := by decide +kernel
theorem dX9_read_12 : decode cX9_read 12 = .ok (.aload_n 0, 1) := by decide +kernel
theorem dX9_read_13 : decode cX9_read 13 = .ok (.getfield 57, 3) := by decide +kernel
theorem dX9_read_16 : decode cX9_read 16 = .ok (.iload_n 1, 1) := by decide +kernel
theorem dX9_read_17 : decode cX9_read 17 = .ok (.iload_n 2, 1) := by decide +kernel
theorem dX9_read_18 : decode cX9_read 18 = .ok (.invokevirtual 283, 3) := by decide +kernel
theorem dX9_read_21 : decode cX9_read 21 = .ok (.goto 6, 3) := by decide +kernel
theorem dX9_read_24 : decode cX9_read 24 = .ok (.ldc2_w 236, 3) := by decide +kernel
theorem dX9_read_27 : decode cX9_read 27 = .ok (.lreturn, 1) := by decide +kernel
theorem dX9_shift_0 : decode cX9_shift 0 = .ok (.iload_n 1, 1) := by decide +kernel
theorem dX9_shift_1 : decode cX9_shift 1 = .ok (.invokestatic 271, 3) := by decide +kernel
theorem dX9_shift_4 : decode cX9_shift 4 = .ok (.ifCond .eq 10, 3) := by decide +kernel
theorem dX9_shift_7 : decode cX9_shift 7 = .ok (.iload_n 3, 1) := by decide +kernel
theorem dX9_shift_8 : decode cX9_shift 8 = .ok (.invokestatic 271, 3) := by decide +kernel
theorem dX9_shift_11 : decode cX9_shift 11 = .ok (.ifCond .ne 5, 3) := by decide +kernel
theorem dX9_shift_14 : decode cX9_shift 14 = .ok (.iconst (-1), 1) := by decide +kernel
theorem dX9_shift_15 : decode cX9_shift 15 = .ok (.ireturn, 1) := by decide +kernel
theorem dX9_shift_16 : decode cX9_shift 16 = .ok (.aload_n 0, 1) := by decide +kernel
theorem dX9_shift_17 : decode cX9_shift 17 = .ok (.getfield 57, 3) := by decide +kernel
theorem dX9_shift_20 : decode cX9_shift 20 = .ok (.iload_n 1, 1) := by decide +kernel
theorem dX9_shift_21 : decode cX9_shift 21 = .ok (.invokevirtual 274, 3) := by decide +kernel
theorem dX9_shift_24 : decode cX9_shift 24 = .ok (.ifCond .ne 14, 3) := by decide +kernel
theorem dX9_shift_27 : decode cX9_shift 27 = .ok (.aload_n 0, 1) := by decide +kernel
theorem dX9_shift_28 : decode cX9_shift 28 = .ok (.getfield 57, 3) := by decide +kernel
theorem dX9_shift_31 : decode cX9_shift 31 = .ok (.iload_n 3, 1) := by decide +kernel
theorem dX9_shift_32 : decode cX9_shift 32 = .ok (.invokevirtual 274, 3) := by decide +kernel
theorem dX9_shift_35 : decode cX9_shift 35 = .ok (.ifCond .eq 6, 3) := by decide +kernel
theorem dX9_shift_38 : decode cX9_shift 38 = .ok (.bipush (-11), 2) := by decide +kernel
theorem dX9_shift_40 : decode cX9_shift 40 = .ok (.ireturn, 1) := by decide +kernel
theorem dX9_shift_41 : decode cX9_shift 41 = .ok (.aload_n 0, 1) := by decide +kernel
theorem dX9_shift_42 : decode cX9_shift 42 = .ok (.getfield 57, 3) := by decide +kernel
theorem dX9_shift_45 : decode cX9_shift 45 = .ok (.iload_n 1, 1) := by decide +kernel
theorem dX9_shift_46 : decode cX9_shift 46 = .ok (.invokevirtual 277, 3) := by decide +kernel
theorem dX9_shift_49 : decode cX9_shift 49 = .ok (.aload_n 0, 1) := by decide +kernel
theorem dX9_shift_50 : decode cX9_shift 50 = .ok (.getfield 57, 3) := by decide +kernel
theorem dX9_shift_53 : decode cX9_shift 53 = .ok (.iload_n 3, 1) := by decide +kernel
theorem dX9_shift_54 : decode cX9_shift 54 = .ok (.invokevirtual 277, 3) := by decide +kernel
theorem dX9_shift_57 : decode cX9_shift 57 = .ok (.if_icmp .eq 6, 3) := by decide +kernel
theorem dX9_shift_60 : decode cX9_shift 60 = .ok (.bipush (-12), 2) := by decide +kernel
theorem dX9_shift_62 : decode cX9_shift 62 = .ok (.ireturn, 1) := by decide +kernel
theorem dX9_shift_63 : decode cX9_shift 63 = .ok (.aload_n 0, 1) := by decide +kernel
theorem dX9_shift_64 : decode cX9_shift 64 = .ok (.getfield 57, 3) := by decide +kernel
theorem dX9_shift_67 : decode cX9_shift 67 = .ok (.iload_n 1, 1) := by decide +kernel
theorem dX9_shift_68 : decode cX9_shift 68 = .ok (.iload_n 2, 1) := by decide +kernel
theorem dX9_shift_69 : decode cX9_shift 69 = .ok (.iload 5, 2) := by decide +kernel
theorem dX9_shift_71 : decode cX9_shift 71 = .ok (.invokevirtual 327, 3) := by decide +kernel
theorem dX9_shift_74 : decode cX9_shift 74 = .ok (.ifCond .eq 18, 3) := by decide +kernel
theorem dX9_shift_77 : decode cX9_shift 77 = .ok (.aload_n 0, 1) := by decide +kernel
theorem dX9_shift_78 : decode cX9_shift 78 = .ok (.getfield 57, 3) := by decide +kernel
theorem dX9_shift_81 : decode cX9_shift 81 = .ok (.iload_n 3, 1) := by decide +kernel
theorem dX9_shift_82 : decode cX9_shift 82 = .ok (.iload 4, 2) := by decide +kernel
theorem dX9_shift_84 : decode cX9_shift 84 = .ok (.iload 5, 2) := by decide +kernel
theorem dX9_shift_86 : decode cX9_shift 86 = .ok (.invokevirtual 327, 3) := by decide +kernel
theorem dX9_shift_89 : decode cX9_shift 89 = .ok (.ifCond .ne 6, 3) := by decide +kernel
theorem dX9_shift_92 : decode cX9_shift 92 = .ok (.bipush (-13), 2) := by decide +kernel
theorem dX9_shift_94 : decode cX9_shift 94 = .ok (.ireturn, 1) := by decide +kernel
theorem dX9_shift_95 : decode cX9_shift 95 = .ok (.aload_n 0, 1) := by decide +kernel
theorem dX9_shift_96 : decode cX9_shift 96 = .ok (.getfield 57, 3) := by decide +kernel
theorem dX9_shift_99 : decode cX9_shift 99 = .ok (.iload_n 1, 1) := by decide +kernel
theorem dX9_shift_100 : decode cX9_shift 100 = .ok (.iload_n 2, 1) := by decide +kernel
theorem dX9_shift_101 : decode cX9_shift 101 = .ok (.iload_n 3, 1) := by decide +kernel
theorem dX9_shift_102 : decode cX9_shift 102 = .ok (.iload 4, 2) := by decide +kernel
theorem dX9_shift_104 : decode cX9_shift 104 = .ok (.iload 5, 2) := by decide +kernel
theorem dX9_shift_106 : decode cX9_shift 106 = .ok (.invokevirtual 330, 3) := by decide +kernel
theorem dX9_shift_109 : decode cX9_shift 109 = .ok (.iload 5, 2) := by decide +kernel
theorem dX9_shift_111 : decode cX9_shift 111 = .ok (.ireturn, 1) := by decide +kernel
theorem dX9_learnYields_0 : decode cX9_learnYields 0 = .ok (.aload_n 0, 1) := by decide +kernel
theorem dX9_learnYields_1 : decode cX9_learnYields 1 = .ok (.getfield 34, 3) := by decide +kernel
theorem dX9_learnYields_4 : decode cX9_learnYields 4 = .ok (.aload_n 0, 1) := by decide +kernel
theorem dX9_learnYields_5 : decode cX9_learnYields 5 = .ok (.getfield 12, 3) := by decide +kernel
theorem dX9_learnYields_8 : decode cX9_learnYields 8 = .ok (.getfield 166, 3) := by decide +kernel
theorem dX9_learnYields_11 : decode cX9_learnYields 11 = .ok (.iload_n 1, 1) := by decide +kernel
theorem dX9_learnYields_12 : decode cX9_learnYields 12 = .ok (.aload_n 0, 1) := by decide +kernel
theorem dX9_learnYields_13 : decode cX9_learnYields 13 = .ok (.getfield 12, 3) := by decide +kernel
theorem dX9_learnYields_16 : decode cX9_learnYields 16 = .ok (.getfield 107, 3) := by decide +kernel
theorem dX9_learnYields_19 : decode cX9_learnYields 19 = .ok (.iload_n 1, 1) := by decide +kernel
theorem dX9_learnYields_20 : decode cX9_learnYields 20 = .ok (.iaload, 1) := by decide +kernel
theorem dX9_learnYields_21 : decode cX9_learnYields 21 = .ok (.aload_n 0, 1) := by decide +kernel
theorem dX9_learnYields_22 : decode cX9_learnYields 22 = .ok (.getfield 12, 3) := by decide +kernel
theorem dX9_learnYields_25 : decode cX9_learnYields 25 = .ok (.getfield 110, 3) := by decide +kernel
theorem dX9_learnYields_28 : decode cX9_learnYields 28 = .ok (.iload_n 1, 1) := by decide +kernel
theorem dX9_learnYields_29 : decode cX9_learnYields 29 = .ok (.iaload, 1) := by decide +kernel
theorem dX9_learnYields_30 : decode cX9_learnYields 30 = .ok (.invokevirtual 334, 3) := by decide +kernel
theorem dX9_learnYields_33 : decode cX9_learnYields 33 = .ok (.aload_n 0, 1) := by decide +kernel
theorem dX9_learnYields_34 : decode cX9_learnYields 34 = .ok (.getfield 34, 3) := by decide +kernel
theorem dX9_learnYields_37 : decode cX9_learnYields 37 = .ok (.aload_n 0, 1) := by decide +kernel
theorem dX9_learnYields_38 : decode cX9_learnYields 38 = .ok (.getfield 12, 3) := by decide +kernel
theorem dX9_learnYields_41 : decode cX9_learnYields 41 = .ok (.getfield 103, 3) := by decide +kernel
theorem dX9_learnYields_44 : decode cX9_learnYields 44 = .ok (.iload_n 1, 1) := by decide +kernel
theorem dX9_learnYields_45 : decode cX9_learnYields 45 = .ok (.invokevirtual 338, 3) := by decide +kernel
theorem dX9_learnYields_48 : decode cX9_learnYields 48 = .ok (.return_, 1) := by decide +kernel
theorem dX9_isBetween_0 : decode cX9_isBetween 0 = .ok (.iload_n 0, 1) := by decide +kernel
theorem dX9_isBetween_1 : decode cX9_isBetween 1 = .ok (.iload_n 1, 1) := by decide +kernel
theorem dX9_isBetween_2 : decode cX9_isBetween 2 = .ok (.if_icmp .lt 12, 3) := by decide +kernel
theorem dX9_isBetween_5 : decode cX9_isBetween 5 = .ok (.iload_n 0, 1) := by decide +kernel
theorem dX9_isBetween_6 : decode cX9_isBetween 6 = .ok (.iload_n 2, 1) := by decide +kernel
theorem dX9_isBetween_7 : decode cX9_isBetween 7 = .ok (.if_icmp .gt 7, 3) := by decide +kernel
theorem dX9_isBetween_10 : decode cX9_isBetween 10 = .ok (.iconst 1, 1) := by decide +kernel
theorem dX9_isBetween_11 : decode cX9_isBetween 11 = .ok (.goto 4, 3) := by decide +kernel
theorem dX9_isBetween_14 : decode cX9_isBetween 14 = .ok (.iconst 0, 1) := by decide +kernel
theorem dX9_isBetween_15 : decode cX9_isBetween 15 = .ok (.ireturn, 1) := by decide +kernel
theorem dX9_isCellAsked_0 : decode cX9_isCellAsked 0 = .ok (.iload_n 0, 1) := by decide +kernel
theorem dX9_isCellAsked_1 : decode cX9_isCellAsked 1 = .ok (.iload_n 1, 1) := by decide +kernel
theorem dX9_isCellAsked_2 : decode cX9_isCellAsked 2 = .ok (.if_icmp .lt 15, 3) := by decide +kernel
theorem dX9_isCellAsked_5 : decode cX9_isCellAsked 5 = .ok (.iload_n 0, 1) := by decide +kernel
theorem dX9_isCellAsked_6 : decode cX9_isCellAsked 6 = .ok (.iload_n 1, 1) := by decide +kernel
theorem dX9_isCellAsked_7 : decode cX9_isCellAsked 7 = .ok (.bipush 16, 2) := by decide +kernel
theorem dX9_isCellAsked_9 : decode cX9_isCellAsked 9 = .ok (.iadd, 1) := by decide +kernel
theorem dX9_isCellAsked_10 : decode cX9_isCellAsked 10 = .ok (.if_icmp .ge 7, 3) := by decide +kernel
theorem dX9_isCellAsked_13 : decode cX9_isCellAsked 13 = .ok (.iconst 1, 1) := by decide +kernel
theorem dX9_isCellAsked_14 : decode cX9_isCellAsked 14 = .ok (.goto 4, 3) := by decide +kernel
theorem dX9_isCellAsked_17 : decode cX9_isCellAsked 17 = .ok (.iconst 0, 1) := by decide +kernel
theorem dX9_isCellAsked_18 : decode cX9_isCellAsked 18 = .ok (.ireturn, 1) := by decide +kernel
theorem dX9_oneIf_0 : decode cX9_oneIf 0 = .ok (.iload_n 0, 1) := by decide +kernel
theorem dX9_oneIf_1 : decode cX9_oneIf 1 = .ok (.ifCond .eq 7, 3) := by decide +kernel
theorem dX9_oneIf_4 : decode cX9_oneIf 4 = .ok (.iconst 1, 1) := by decide +kernel
theorem dX9_oneIf_5 : decode cX9_oneIf 5 = .ok (.goto 4, 3) := by decide +kernel
theorem dX9_oneIf_8 : decode cX9_oneIf 8 = .ok (.iconst 0, 1) := by decide +kernel
theorem dX9_oneIf_9 : decode cX9_oneIf 9 = .ok (.ireturn, 1) := by decide +kernel
theorem dX9_partOfFraction_0 : decode cX9_partOfFraction 0 = .ok (.iload_n 2, 1) := by decide +kernel
theorem dX9_partOfFraction_1 : decode cX9_partOfFraction 1 = .ok (.ifCond .eq 12, 3) := by decide +kernel
theorem dX9_partOfFraction_4 : decode cX9_partOfFraction 4 = .ok (.iload_n 2, 1) := by decide +kernel
theorem dX9_partOfFraction_5 : decode cX9_partOfFraction 5 = .ok (.iconst 1, 1) := by decide +kernel
theorem dX9_partOfFraction_6 : decode cX9_partOfFraction 6 = .ok (.if_icmp .eq 7, 3) := by decide +kernel
theorem dX9_partOfFraction_9 : decode cX9_partOfFraction 9 = .ok (.ldc2_w 236, 3) := by decide +kernel
theorem dX9_partOfFraction_12 : decode cX9_partOfFraction 12 = .ok (.lreturn, 1) := by decide +kernel
theorem dX9_partOfFraction_13 : decode cX9_partOfFraction 13 = .ok (.iload_n 0, 1) := by decide +kernel
theorem dX9_partOfFraction_14 : decode cX9_partOfFraction 14 = .ok (.iload_n 1, 1) := by decide +kernel
theorem dX9_partOfFraction_15 : decode cX9_partOfFraction 15 = .ok (.invokestatic 342, 3) := by decide +kernel
theorem dX9_partOfFraction_18 : decode cX9_partOfFraction 18 = .ok (.istore_n 3, 1) := by decide +kernel
theorem dX9_partOfFraction_19 : decode cX9_partOfFraction 19 = .ok (.iload_n 3, 1) := by decide +kernel
theorem dX9_partOfFraction_20 : decode cX9_partOfFraction 20 = .ok (.ifCond .ne 7, 3) := by decide +kernel
theorem dX9_partOfFraction_23 : decode cX9_partOfFraction 23 = .ok (.ldc2_w 236, 3) := by decide +kernel
theorem dX9_partOfFraction_26 : decode cX9_partOfFraction 26 = .ok (.lreturn, 1) := by decide +kernel
theorem dX9_partOfFraction_27 : decode cX9_partOfFraction 27 = .ok (.iload_n 2, 1) := by decide +kernel
theorem dX9_partOfFraction_28 : decode cX9_partOfFraction 28 = .ok (.ifCond .ne 10, 3) := by decide +kernel
theorem dX9_partOfFraction_31 : decode cX9_partOfFraction 31 = .ok (.iload_n 0, 1) := by decide +kernel
theorem dX9_partOfFraction_32 : decode cX9_partOfFraction 32 = .ok (.iload_n 3, 1) := by decide +kernel
theorem dX9_partOfFraction_33 : decode cX9_partOfFraction 33 = .ok (.idiv, 1) := by decide +kernel
theorem dX9_partOfFraction_34 : decode cX9_partOfFraction 34 = .ok (.i2l, 1) := by decide +kernel
theorem dX9_partOfFraction_35 : decode cX9_partOfFraction 35 = .ok (.goto 7, 3) := by decide +kernel
theorem dX9_partOfFraction_38 : decode cX9_partOfFraction 38 = .ok (.iload_n 1, 1) := by decide +kernel
theorem dX9_partOfFraction_39 : decode cX9_partOfFraction 39 = .ok (.iload_n 3, 1) := by decide +kernel
theorem dX9_partOfFraction_40 : decode cX9_partOfFraction 40 = .ok (.idiv, 1) := by decide +kernel
theorem dX9_partOfFraction_41 : decode cX9_partOfFraction 41 = .ok (.i2l, 1) := by decide +kernel
theorem dX9_partOfFraction_42 : decode cX9_partOfFraction 42 = .ok (.lreturn, 1) := by decide +kernel
theorem dX9_commonDivisor_0 : decode cX9_commonDivisor 0 = .ok (.iload_n 0, 1) := by decide +kernel
theorem dX9_commonDivisor_1 : decode cX9_commonDivisor 1 = .ok (.istore_n 2, 1) := by decide +kernel
theorem dX9_commonDivisor_2 : decode cX9_commonDivisor 2 = .ok (.iload_n 1, 1) := by decide +kernel
theorem dX9_commonDivisor_3 : decode cX9_commonDivisor 3 = .ok (.istore_n 3, 1) := by decide +kernel
theorem dX9_commonDivisor_4 : decode cX9_commonDivisor 4 = .ok (.iconst 0, 1) := by decide +kernel
theorem dX9_commonDivisor_5 : decode cX9_commonDivisor 5 = .ok (.istore 4, 2) := by decide +kernel
theorem dX9_commonDivisor_7 : decode cX9_commonDivisor 7 = .ok (.iload 4, 2) := by decide +kernel
theorem dX9_commonDivisor_9 : decode cX9_commonDivisor 9 = .ok (.bipush 50, 2) := by decide +kernel
theorem dX9_commonDivisor_11 : decode cX9_commonDivisor 11 = .ok (.if_icmp .ge 23, 3) := by decide +kernel
theorem dX9_commonDivisor_14 : decode cX9_commonDivisor 14 = .ok (.iload_n 3, 1) := by decide +kernel
theorem dX9_commonDivisor_15 : decode cX9_commonDivisor 15 = .ok (.ifCond .eq 19, 3) := by decide +kernel
theorem dX9_commonDivisor_18 : decode cX9_commonDivisor 18 = .ok (.iload_n 2, 1) := by decide +kernel
theorem dX9_commonDivisor_19 : decode cX9_commonDivisor 19 = .ok (.iload_n 3, 1) := by decide +kernel
theorem dX9_commonDivisor_20 : decode cX9_commonDivisor 20 = .ok (.irem, 1) := by decide +kernel
theorem dX9_commonDivisor_21 : decode cX9_commonDivisor 21 = .ok (.istore 5, 2) := by decide +kernel
theorem dX9_commonDivisor_23 : decode cX9_commonDivisor 23 = .ok (.iload_n 3, 1) := by decide +kernel
theorem dX9_commonDivisor_24 : decode cX9_commonDivisor 24 = .ok (.istore_n 2, 1) := by decide +kernel
theorem dX9_commonDivisor_25 : decode cX9_commonDivisor 25 = .ok (.iload 5, 2) := by decide +kernel
theorem dX9_commonDivisor_27 : decode cX9_commonDivisor 27 = .ok (.istore_n 3, 1) := by decide +kernel
theorem dX9_commonDivisor_28 : decode cX9_commonDivisor 28 = .ok (.iinc 4 1, 3) := by decide +kernel
theorem dX9_commonDivisor_31 : decode cX9_commonDivisor 31 = .ok (.goto (-24), 3) := by decide +kernel
theorem dX9_commonDivisor_34 : decode cX9_commonDivisor 34 = .ok (.iload_n 2, 1) := by decide +kernel
theorem dX9_commonDivisor_35 : decode cX9_commonDivisor 35 = .ok (.ireturn, 1) := by decide +kernel
theorem dJ9_max_7cf53_0 : decode cJ9_max_7cf53 0 = .ok (.iload_n 0, 1) := by decide +kernel
theorem dJ9_max_7cf53_1 : decode cJ9_max_7cf53 1 = .ok (.iload_n 1, 1) := by decide +kernel
theorem dJ9_max_7cf53_2 : decode cJ9_max_7cf53 2 = .ok (.if_icmp .lt 7, 3) := by decide +kernel
theorem dJ9_max_7cf53_5 : decode cJ9_max_7cf53 5 = .ok (.iload_n 0, 1) := by decide +kernel
theorem dJ9_max_7cf53_6 : decode cJ9_max_7cf53 6 = .ok (.goto 4, 3) := by decide +kernel
theorem dJ9_max_7cf53_9 : decode cJ9_max_7cf53 9 = .ok (.iload_n 1, 1) := by decide +kernel
theorem dJ9_max_7cf53_10 : decode cJ9_max_7cf53 10 = .ok (.ireturn, 1) := by decide +kernel
theorem dJ9_min_7cf53_0 : decode cJ9_min_7cf53 0 = .ok (.iload_n 0, 1) := by decide +kernel
theorem dJ9_min_7cf53_1 : decode cJ9_min_7cf53 1 = .ok (.iload_n 1, 1) := by decide +kernel
theorem dJ9_min_7cf53_2 : decode cJ9_min_7cf53 2 = .ok (.if_icmp .gt 7, 3) := by decide +kernel
theorem dJ9_min_7cf53_5 : decode cJ9_min_7cf53 5 = .ok (.iload_n 0, 1) := by decide +kernel
theorem dJ9_min_7cf53_6 : decode cJ9_min_7cf53 6 = .ok (.goto 4, 3) := by decide +kernel
theorem dJ9_min_7cf53_9 : decode cJ9_min_7cf53 9 = .ok (.iload_n 1, 1) := by decide +kernel
theorem dJ9_min_7cf53_10 : decode cJ9_min_7cf53 10 = .ok (.ireturn, 1) := by decide +kernel
theorem dJ0_length_8abf5_0 : decode cJ0_length_8abf5 0 = .ok (.aload_n 0, 1) := by decide +kernel
theorem dJ0_length_8abf5_1 : decode cJ0_length_8abf5 1 = .ok (.getfield 9, 3) := by decide +kernel
theorem dJ0_length_8abf5_4 : decode cJ0_length_8abf5 4 = .ok (.arraylength, 1) := by decide +kernel
theorem dJ0_length_8abf5_5 : decode cJ0_length_8abf5 5 = .ok (.aload_n 0, 1) := by decide +kernel
theorem dJ0_length_8abf5_6 : decode cJ0_length_8abf5 6 = .ok (.invokevirtual 335, 3) := by decide +kernel
theorem dJ0_length_8abf5_9 : decode cJ0_length_8abf5 9 = .ok (.ishr, 1) := by decide +kernel
theorem dJ0_length_8abf5_10 : decode cJ0_length_8abf5 10 = .ok (.ireturn, 1) := by decide +kernel
theorem dJ0_charAt_5068e_0 : decode cJ0_charAt_5068e 0 = .ok (.aload_n 0, 1) := by decide +kernel
theorem dJ0_charAt_5068e_1 : decode cJ0_charAt_5068e 1 = .ok (.invokevirtual 492, 3) := by decide +kernel
theorem dJ0_charAt_5068e_4 : decode cJ0_charAt_5068e 4 = .ok (.ifCond .eq 12, 3) := by decide +kernel
theorem dJ0_charAt_5068e_7 : decode cJ0_charAt_5068e 7 = .ok (.aload_n 0, 1) := by decide +kernel
theorem dJ0_charAt_5068e_8 : decode cJ0_charAt_5068e 8 = .ok (.getfield 9, 3) := by decide +kernel
theorem dJ0_charAt_5068e_11 : decode cJ0_charAt_5068e 11 = .ok (.iload_n 1, 1) := by decide +kernel
theorem dJ0_charAt_5068e_12 : decode cJ0_charAt_5068e 12 = .ok (.invokestatic 495, 3) := by decide +kernel
theorem dJ0_charAt_5068e_15 : decode cJ0_charAt_5068e 15 = .ok (.ireturn, 1) := by decide +kernel
theorem dJ0_charAt_5068e_16 : decode cJ0_charAt_5068e 16 = .ok (.aload_n 0, 1) := by decide +kernel
theorem dJ0_charAt_5068e_17 : decode cJ0_charAt_5068e 17 = .ok (.getfield 9, 3) := by decide +kernel
theorem dJ0_charAt_5068e_20 : decode cJ0_charAt_5068e 20 = .ok (.iload_n 1, 1) := by decide +kernel
theorem dJ0_charAt_5068e_21 : decode cJ0_charAt_5068e 21 = .ok (.invokestatic 498, 3) := by decide +kernel
theorem dJ0_charAt_5068e_24 : decode cJ0_charAt_5068e 24 = .ok (.ireturn, 1) := by decide +kernel
theorem dJ0_coder_7d493_0 : decode cJ0_coder_7d493 0 = .ok (.getstatic 38, 3) := by decide +kernel
theorem dJ0_coder_7d493_3 : decode cJ0_coder_7d493 3 = .ok (.ifCond .eq 10, 3) := by decide +kernel
theorem dJ0_coder_7d493_6 : decode cJ0_coder_7d493 6 = .ok (.aload_n 0, 1) := by decide +kernel
theorem dJ0_coder_7d493_7 : decode cJ0_coder_7d493 7 = .ok (.getfield 15, 3) := by decide +kernel
theorem dJ0_coder_7d493_10 : decode cJ0_coder_7d493 10 = .ok (.goto 4, 3) := by decide +kernel
theorem dJ0_coder_7d493_13 : decode cJ0_coder_7d493 13 = .ok (.iconst 1, 1) := by decide +kernel
theorem dJ0_coder_7d493_14 : decode cJ0_coder_7d493 14 = .ok (.ireturn, 1) := by decide +kernel
theorem dJ0_isLatin1_aae02_0 : decode cJ0_isLatin1_aae02 0 = .ok (.getstatic 38, 3) := by decide +kernel
theorem dJ0_isLatin1_aae02_3 : decode cJ0_isLatin1_aae02 3 = .ok (.ifCond .eq 14, 3) := by decide +kernel
theorem dJ0_isLatin1_aae02_6 : decode cJ0_isLatin1_aae02 6 = .ok (.aload_n 0, 1) := by decide +kernel
theorem dJ0_isLatin1_aae02_7 : decode cJ0_isLatin1_aae02 7 = .ok (.getfield 15, 3) := by decide +kernel
theorem dJ0_isLatin1_aae02_10 : decode cJ0_isLatin1_aae02 10 = .ok (.ifCond .ne 7, 3) := by decide +kernel
theorem dJ0_isLatin1_aae02_13 : decode cJ0_isLatin1_aae02 13 = .ok (.iconst 1, 1) := by decide +kernel
theorem dJ0_isLatin1_aae02_14 : decode cJ0_isLatin1_aae02 14 = .ok (.goto 4, 3) := by decide +kernel
theorem dJ0_isLatin1_aae02_17 : decode cJ0_isLatin1_aae02 17 = .ok (.iconst 0, 1) := by decide +kernel
theorem dJ0_isLatin1_aae02_18 : decode cJ0_isLatin1_aae02 18 = .ok (.ireturn, 1) := by decide +kernel
theorem dJ0_checkIndex_df160_0 : decode cJ0_checkIndex_df160 0 = .ok (.iload_n 0, 1) := by decide +kernel
theorem dJ0_checkIndex_df160_1 : decode cJ0_checkIndex_df160 1 = .ok (.iload_n 1, 1) := by decide +kernel
theorem dJ0_checkIndex_df160_2 : decode cJ0_checkIndex_df160 2 = .ok (.getstatic 1053, 3) := by decide +kernel
theorem dJ0_checkIndex_df160_5 : decode cJ0_checkIndex_df160 5 = .ok (.invokestatic 1059, 3) := by decide +kernel
theorem dJ0_checkIndex_df160_8 : decode cJ0_checkIndex_df160 8 = .ok (.pop, 1) := by decide +kernel
theorem dJ0_checkIndex_df160_9 : decode cJ0_checkIndex_df160 9 = .ok (.return_, 1) := by decide +kernel
theorem dJ1_charAt_3b067_0 : decode cJ1_charAt_3b067 0 = .ok (.iload_n 1, 1) := by decide +kernel
theorem dJ1_charAt_3b067_1 : decode cJ1_charAt_3b067 1 = .ok (.aload_n 0, 1) := by decide +kernel
theorem dJ1_charAt_3b067_2 : decode cJ1_charAt_3b067 2 = .ok (.arraylength, 1) := by decide +kernel
theorem dJ1_charAt_3b067_3 : decode cJ1_charAt_3b067 3 = .ok (.invokestatic 9, 3) := by decide +kernel
theorem dJ1_charAt_3b067_6 : decode cJ1_charAt_3b067 6 = .ok (.aload_n 0, 1) := by decide +kernel
theorem dJ1_charAt_3b067_7 : decode cJ1_charAt_3b067 7 = .ok (.iload_n 1, 1) := by decide +kernel
theorem dJ1_charAt_3b067_8 : decode cJ1_charAt_3b067 8 = .ok (.baload, 1) := by decide +kernel
theorem dJ1_charAt_3b067_9 : decode cJ1_charAt_3b067 9 = .ok (.sipush 255, 3) := by decide +kernel
theorem dJ1_charAt_3b067_12 : decode cJ1_charAt_3b067 12 = .ok (.iand, 1) := by decide +kernel
theorem dJ1_charAt_3b067_13 : decode cJ1_charAt_3b067 13 = .ok (.i2c, 1) := by decide +kernel
theorem dJ1_charAt_3b067_14 : decode cJ1_charAt_3b067 14 = .ok (.ireturn, 1) := by decide +kernel
theorem dJ2_getChar_3b067_0 : decode cJ2_getChar_3b067 0 = .ok (.getstatic 44, 3) := by decide +kernel
theorem dJ2_getChar_3b067_3 : decode cJ2_getChar_3b067 3 = .ok (.ifCond .ne 25, 3) := by decide +kernel
theorem dJ2_getChar_3b067_6 : decode cJ2_getChar_3b067 6 = .ok (.iload_n 1, 1) := by decide +kernel
theorem dJ2_getChar_3b067_7 : decode cJ2_getChar_3b067 7 = .ok (.ifCond .lt 11, 3) := by decide +kernel
theorem dJ2_getChar_3b067_10 : decode cJ2_getChar_3b067 10 = .ok (.iload_n 1, 1) := by decide +kernel
theorem dJ2_getChar_3b067_11 : decode cJ2_getChar_3b067 11 = .ok (.aload_n 0, 1) := by decide +kernel
theorem dJ2_getChar_3b067_12 : decode cJ2_getChar_3b067 12 = .ok (.invokestatic 48, 3) := by decide +kernel
theorem dJ2_getChar_3b067_15 : decode cJ2_getChar_3b067 15 = .ok (.if_icmp .lt 13, 3) := by decide +kernel
theorem dJ2_getChar_3b067_18 : decode cJ2_getChar_3b067 18 = .ok (.new 52, 3) := by decide +kernel
theorem dJ2_getChar_3b067_21 : decode cJ2_getChar_3b067 21 = .ok (.dup, 1) := by decide +kernel
theorem dJ2_getChar_3b067_22 : decode cJ2_getChar_3b067 22 = .ok (.ldc 54, 2) := by decide +kernel
theorem dJ2_getChar_3b067_24 : decode cJ2_getChar_3b067 24 = .ok (.invokespecial 56, 3) := by decide +kernel
theorem dJ2_getChar_3b067_27 : decode cJ2_getChar_3b067 27 = .ok (.athrow, 1) := by decide +kernel
theorem dJ2_getChar_3b067_28 : decode cJ2_getChar_3b067 28 = .ok (.iload_n 1, 1) := by decide +kernel
theorem dJ2_getChar_3b067_29 : decode cJ2_getChar_3b067 29 = .ok (.iconst 1, 1) := by decide +kernel
theorem dJ2_getChar_3b067_30 : decode cJ2_getChar_3b067 30 = .ok (.ishl, 1) := by decide +kernel
theorem dJ2_getChar_3b067_31 : decode cJ2_getChar_3b067 31 = .ok (.istore_n 1, 1) := by decide +kernel
theorem dJ2_getChar_3b067_32 : decode cJ2_getChar_3b067 32 = .ok (.aload_n 0, 1) := by decide +kernel
theorem dJ2_getChar_3b067_33 : decode cJ2_getChar_3b067 33 = .ok (.iload_n 1, 1) := by decide +kernel
theorem dJ2_getChar_3b067_34 : decode cJ2_getChar_3b067 34 = .ok (.iinc 1 1, 3) := by decide +kernel
theorem dJ2_getChar_3b067_37 : decode cJ2_getChar_3b067 37 = .ok (.baload, 1) := by decide +kernel
theorem dJ2_getChar_3b067_38 : decode cJ2_getChar_3b067 38 = .ok (.sipush 255, 3) := by decide +kernel
theorem dJ2_getChar_3b067_41 : decode cJ2_getChar_3b067 41 = .ok (.iand, 1) := by decide +kernel
theorem dJ2_getChar_3b067_42 : decode cJ2_getChar_3b067 42 = .ok (.getstatic 59, 3) := by decide +kernel
theorem dJ2_getChar_3b067_45 : decode cJ2_getChar_3b067 45 = .ok (.ishl, 1) := by decide +kernel
theorem dJ2_getChar_3b067_46 : decode cJ2_getChar_3b067 46 = .ok (.aload_n 0, 1) := by decide +kernel
theorem dJ2_getChar_3b067_47 : decode cJ2_getChar_3b067 47 = .ok (.iload_n 1, 1) := by decide +kernel
theorem dJ2_getChar_3b067_48 : decode cJ2_getChar_3b067 48 = .ok (.baload, 1) := by decide +kernel
theorem dJ2_getChar_3b067_49 : decode cJ2_getChar_3b067 49 = .ok (.sipush 255, 3) := by decide +kernel
theorem dJ2_getChar_3b067_52 : decode cJ2_getChar_3b067 52 = .ok (.iand, 1) := by decide +kernel
theorem dJ2_getChar_3b067_53 : decode cJ2_getChar_3b067 53 = .ok (.getstatic 63, 3) := by decide +kernel
theorem dJ2_getChar_3b067_56 : decode cJ2_getChar_3b067 56 = .ok (.ishl, 1) := by decide +kernel
theorem dJ2_getChar_3b067_57 : decode cJ2_getChar_3b067 57 = .ok (.ior, 1) := by decide +kernel
theorem dJ2_getChar_3b067_58 : decode cJ2_getChar_3b067 58 = .ok (.i2c, 1) := by decide +kernel
theorem dJ2_getChar_3b067_59 : decode cJ2_getChar_3b067 59 = .ok (.ireturn, 1) := by decide +kernel
theorem dJ2_length_9d52b_0 : decode cJ2_length_9d52b 0 = .ok (.aload_n 0, 1) := by decide +kernel
theorem dJ2_length_9d52b_1 : decode cJ2_length_9d52b 1 = .ok (.arraylength, 1) := by decide +kernel
theorem dJ2_length_9d52b_2 : decode cJ2_length_9d52b 2 = .ok (.iconst 1, 1) := by decide +kernel
theorem dJ2_length_9d52b_3 : decode cJ2_length_9d52b 3 = .ok (.ishr, 1) := by decide +kernel
theorem dJ2_length_9d52b_4 : decode cJ2_length_9d52b 4 = .ok (.ireturn, 1) := by decide +kernel
theorem dJ2_charAt_3b067_0 : decode cJ2_charAt_3b067 0 = .ok (.iload_n 1, 1) := by decide +kernel
theorem dJ2_charAt_3b067_1 : decode cJ2_charAt_3b067 1 = .ok (.aload_n 0, 1) := by decide +kernel
theorem dJ2_charAt_3b067_2 : decode cJ2_charAt_3b067 2 = .ok (.invokestatic 67, 3) := by decide +kernel
theorem dJ2_charAt_3b067_5 : decode cJ2_charAt_3b067 5 = .ok (.aload_n 0, 1) := by decide +kernel
theorem dJ2_charAt_3b067_6 : decode cJ2_charAt_3b067 6 = .ok (.iload_n 1, 1) := by decide +kernel
theorem dJ2_charAt_3b067_7 : decode cJ2_charAt_3b067 7 = .ok (.invokestatic 71, 3) := by decide +kernel
theorem dJ2_charAt_3b067_10 : decode cJ2_charAt_3b067 10 = .ok (.ireturn, 1) := by decide +kernel
theorem dJ2_checkIndex_2214a_0 : decode cJ2_checkIndex_2214a 0 = .ok (.iload_n 0, 1) := by decide +kernel
theorem dJ2_checkIndex_2214a_1 : decode cJ2_checkIndex_2214a 1 = .ok (.aload_n 1, 1) := by decide +kernel
theorem dJ2_checkIndex_2214a_2 : decode cJ2_checkIndex_2214a 2 = .ok (.invokestatic 48, 3) := by decide +kernel
theorem dJ2_checkIndex_2214a_5 : decode cJ2_checkIndex_2214a 5 = .ok (.invokestatic 414, 3) := by decide +kernel
theorem dJ2_checkIndex_2214a_8 : decode cJ2_checkIndex_2214a 8 = .ok (.return_, 1) := by decide +kernel
theorem dJ3_checkIndex_8e157_0 : decode cJ3_checkIndex_8e157 0 = .ok (.iload_n 0, 1) := by decide +kernel
theorem dJ3_checkIndex_8e157_1 : decode cJ3_checkIndex_8e157 1 = .ok (.ifCond .lt 8, 3) := by decide +kernel
theorem dJ3_checkIndex_8e157_4 : decode cJ3_checkIndex_8e157 4 = .ok (.iload_n 0, 1) := by decide +kernel
theorem dJ3_checkIndex_8e157_5 : decode cJ3_checkIndex_8e157 5 = .ok (.iload_n 1, 1) := by decide +kernel
theorem dJ3_checkIndex_8e157_6 : decode cJ3_checkIndex_8e157 6 = .ok (.if_icmp .lt 10, 3) := by decide +kernel
theorem dJ3_checkIndex_8e157_9 : decode cJ3_checkIndex_8e157 9 = .ok (.aload_n 2, 1) := by decide +kernel
theorem dJ3_checkIndex_8e157_10 : decode cJ3_checkIndex_8e157 10 = .ok (.iload_n 0, 1) := by decide +kernel
theorem dJ3_checkIndex_8e157_11 : decode cJ3_checkIndex_8e157 11 = .ok (.iload_n 1, 1) := by decide +kernel
theorem dJ3_checkIndex_8e157_12 : decode cJ3_checkIndex_8e157 12 = .ok (.invokestatic 95, 3) := by decide +kernel
theorem dJ3_checkIndex_8e157_15 : decode cJ3_checkIndex_8e157 15 = .ok (.athrow, 1) := by decide +kernel
theorem dJ3_checkIndex_8e157_16 : decode cJ3_checkIndex_8e157 16 = .ok (.iload_n 0, 1) := by decide +kernel
theorem dJ3_checkIndex_8e157_17 : decode cJ3_checkIndex_8e157 17 = .ok (.ireturn, 1) := by decide +kernel
