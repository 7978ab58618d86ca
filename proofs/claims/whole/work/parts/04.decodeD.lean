theorem dd_Md_control_46 : decode prog_9_method_31_code 46 = .ok (.getfield 39, 3) := by decide +kernel
theorem dd_Md_control_49 : decode prog_9_method_31_code 49 = .ok (.iload_n 1, 1) := by decide +kernel
theorem dd_Md_control_50 : decode prog_9_method_31_code 50 = .ok (.iaload, 1) := by decide +kernel
theorem dd_Md_control_51 : decode prog_9_method_31_code 51 = .ok (.iconst 2, 1) := by decide +kernel
theorem dd_Md_control_52 : decode prog_9_method_31_code 52 = .ok (.if_icmp .lt 28, 3) := by decide +kernel
theorem dd_Md_control_55 : decode prog_9_method_31_code 55 = .ok (.aload_n 0, 1) := by decide +kernel
theorem dd_Md_control_56 : decode prog_9_method_31_code 56 = .ok (.getfield 45, 3) := by decide +kernel
theorem dd_Md_control_59 : decode prog_9_method_31_code 59 = .ok (.iload_n 1, 1) := by decide +kernel
theorem dd_Md_control_60 : decode prog_9_method_31_code 60 = .ok (.iaload, 1) := by decide +kernel
theorem dd_Md_control_61 : decode prog_9_method_31_code 61 = .ok (.iload_n 3, 1) := by decide +kernel
theorem dd_Md_control_62 : decode prog_9_method_31_code 62 = .ok (.if_icmp .ne 18, 3) := by decide +kernel
theorem dd_Md_control_65 : decode prog_9_method_31_code 65 = .ok (.aload_n 0, 1) := by decide +kernel
theorem dd_Md_control_66 : decode prog_9_method_31_code 66 = .ok (.getfield 48, 3) := by decide +kernel
theorem dd_Md_control_69 : decode prog_9_method_31_code 69 = .ok (.iload_n 1, 1) := by decide +kernel
theorem dd_Md_control_70 : decode prog_9_method_31_code 70 = .ok (.iaload, 1) := by decide +kernel
theorem dd_Md_control_71 : decode prog_9_method_31_code 71 = .ok (.iload 9, 2) := by decide +kernel
theorem dd_Md_control_73 : decode prog_9_method_31_code 73 = .ok (.if_icmp .ne 7, 3) := by decide +kernel
theorem dd_Md_control_76 : decode prog_9_method_31_code 76 = .ok (.iconst 1, 1) := by decide +kernel
theorem dd_Md_control_77 : decode prog_9_method_31_code 77 = .ok (.goto 4, 3) := by decide +kernel
theorem dd_Md_control_80 : decode prog_9_method_31_code 80 = .ok (.iconst 0, 1) := by decide +kernel
theorem dd_Md_control_81 : decode prog_9_method_31_code 81 = .ok (.istore 10, 2) := by decide +kernel
theorem dd_Md_control_83 : decode prog_9_method_31_code 83 = .ok (.aload_n 0, 1) := by decide +kernel
theorem dd_Md_control_84 : decode prog_9_method_31_code 84 = .ok (.iload_n 1, 1) := by decide +kernel
theorem dd_Md_control_85 : decode prog_9_method_31_code 85 = .ok (.iload_n 3, 1) := by decide +kernel
theorem dd_Md_control_86 : decode prog_9_method_31_code 86 = .ok (.iconst 0, 1) := by decide +kernel
theorem dd_Md_control_87 : decode prog_9_method_31_code 87 = .ok (.invokevirtual 175, 3) := by decide +kernel
theorem dd_Md_control_90 : decode prog_9_method_31_code 90 = .ok (.istore 11, 2) := by decide +kernel
theorem dd_Md_control_92 : decode prog_9_method_31_code 92 = .ok (.iload_n 2, 1) := by decide +kernel
theorem dd_Md_control_93 : decode prog_9_method_31_code 93 = .ok (.sipush 255, 3) := by decide +kernel
theorem dd_Md_control_96 : decode prog_9_method_31_code 96 = .ok (.if_icmp .ne 31, 3) := by decide +kernel
theorem dd_Md_control_99 : decode prog_9_method_31_code 99 = .ok (.iload 6, 2) := by decide +kernel
theorem dd_Md_control_101 : decode prog_9_method_31_code 101 = .ok (.bipush 32, 2) := by decide +kernel
theorem dd_Md_control_103 : decode prog_9_method_31_code 103 = .ok (.if_icmp .ne 145, 3) := by decide +kernel
theorem dd_Md_control_106 : decode prog_9_method_31_code 106 = .ok (.aload_n 0, 1) := by decide +kernel
theorem dd_Md_control_107 : decode prog_9_method_31_code 107 = .ok (.iload_n 1, 1) := by decide +kernel
theorem dd_Md_control_108 : decode prog_9_method_31_code 108 = .ok (.iload_n 3, 1) := by decide +kernel
theorem dd_Md_control_109 : decode prog_9_method_31_code 109 = .ok (.iload 7, 2) := by decide +kernel
theorem dd_Md_control_111 : decode prog_9_method_31_code 111 = .ok (.sipush 256, 3) := by decide +kernel
theorem dd_Md_control_114 : decode prog_9_method_31_code 114 = .ok (.iload 8, 2) := by decide +kernel
theorem dd_Md_control_116 : decode prog_9_method_31_code 116 = .ok (.imul, 1) := by decide +kernel
theorem dd_Md_control_117 : decode prog_9_method_31_code 117 = .ok (.iadd, 1) := by decide +kernel
theorem dd_Md_control_118 : decode prog_9_method_31_code 118 = .ok (.iload 9, 2) := by decide +kernel
theorem dd_Md_control_120 : decode prog_9_method_31_code 120 = .ok (.iconst 1, 1) := by decide +kernel
theorem dd_Md_control_121 : decode prog_9_method_31_code 121 = .ok (.invokevirtual 179, 3) := by decide +kernel
theorem dd_Md_control_124 : decode prog_9_method_31_code 124 = .ok (.goto 124, 3) := by decide +kernel
theorem dd_Md_control_127 : decode prog_9_method_31_code 127 = .ok (.iload 6, 2) := by decide +kernel
theorem dd_Md_control_129 : decode prog_9_method_31_code 129 = .ok (.bipush 16, 2) := by decide +kernel
theorem dd_Md_control_131 : decode prog_9_method_31_code 131 = .ok (.if_icmp .ne 24, 3) := by decide +kernel
theorem dd_Md_control_134 : decode prog_9_method_31_code 134 = .ok (.aload_n 0, 1) := by decide +kernel
theorem dd_Md_control_135 : decode prog_9_method_31_code 135 = .ok (.iload_n 1, 1) := by decide +kernel
theorem dd_Md_control_136 : decode prog_9_method_31_code 136 = .ok (.iload_n 3, 1) := by decide +kernel
theorem dd_Md_control_137 : decode prog_9_method_31_code 137 = .ok (.iload 7, 2) := by decide +kernel
theorem dd_Md_control_139 : decode prog_9_method_31_code 139 = .ok (.sipush 256, 3) := by decide +kernel
theorem dd_Md_control_142 : decode prog_9_method_31_code 142 = .ok (.iload 8, 2) := by decide +kernel
theorem dd_Md_control_144 : decode prog_9_method_31_code 144 = .ok (.imul, 1) := by decide +kernel
theorem dd_Md_control_145 : decode prog_9_method_31_code 145 = .ok (.iadd, 1) := by decide +kernel
theorem dd_Md_control_146 : decode prog_9_method_31_code 146 = .ok (.iload 9, 2) := by decide +kernel
theorem dd_Md_control_148 : decode prog_9_method_31_code 148 = .ok (.iconst 0, 1) := by decide +kernel
theorem dd_Md_control_149 : decode prog_9_method_31_code 149 = .ok (.invokevirtual 179, 3) := by decide +kernel
theorem dd_Md_control_152 : decode prog_9_method_31_code 152 = .ok (.goto 96, 3) := by decide +kernel
theorem dd_Md_control_155 : decode prog_9_method_31_code 155 = .ok (.iload 6, 2) := by decide +kernel
theorem dd_Md_control_157 : decode prog_9_method_31_code 157 = .ok (.bipush 17, 2) := by decide +kernel
theorem dd_Md_control_159 : decode prog_9_method_31_code 159 = .ok (.if_icmp .ne 20, 3) := by decide +kernel
theorem dd_Md_control_162 : decode prog_9_method_31_code 162 = .ok (.iload 10, 2) := by decide +kernel
theorem dd_Md_control_164 : decode prog_9_method_31_code 164 = .ok (.ifCond .eq 15, 3) := by decide +kernel
theorem dd_Md_control_167 : decode prog_9_method_31_code 167 = .ok (.aload_n 0, 1) := by decide +kernel
theorem dd_Md_control_168 : decode prog_9_method_31_code 168 = .ok (.iload_n 1, 1) := by decide +kernel
theorem dd_Md_control_169 : decode prog_9_method_31_code 169 = .ok (.iload 7, 2) := by decide +kernel
theorem dd_Md_control_171 : decode prog_9_method_31_code 171 = .ok (.iload 8, 2) := by decide +kernel
theorem dd_Md_control_173 : decode prog_9_method_31_code 173 = .ok (.invokevirtual 183, 3) := by decide +kernel
theorem dd_Md_control_176 : decode prog_9_method_31_code 176 = .ok (.goto 72, 3) := by decide +kernel
theorem dd_Md_control_179 : decode prog_9_method_31_code 179 = .ok (.iload 6, 2) := by decide +kernel
theorem dd_Md_control_181 : decode prog_9_method_31_code 181 = .ok (.bipush 19, 2) := by decide +kernel
theorem dd_Md_control_183 : decode prog_9_method_31_code 183 = .ok (.if_icmp .ne 18, 3) := by decide +kernel
theorem dd_Md_control_186 : decode prog_9_method_31_code 186 = .ok (.iload 10, 2) := by decide +kernel
theorem dd_Md_control_188 : decode prog_9_method_31_code 188 = .ok (.ifCond .eq 13, 3) := by decide +kernel
theorem dd_Md_control_191 : decode prog_9_method_31_code 191 = .ok (.aload_n 0, 1) := by decide +kernel
theorem dd_Md_control_192 : decode prog_9_method_31_code 192 = .ok (.iload_n 1, 1) := by decide +kernel
theorem dd_Md_control_193 : decode prog_9_method_31_code 193 = .ok (.bipush 10, 2) := by decide +kernel
theorem dd_Md_control_195 : decode prog_9_method_31_code 195 = .ok (.invokevirtual 187, 3) := by decide +kernel
theorem dd_Md_control_198 : decode prog_9_method_31_code 198 = .ok (.goto 50, 3) := by decide +kernel
theorem dd_Md_control_201 : decode prog_9_method_31_code 201 = .ok (.iload 6, 2) := by decide +kernel
theorem dd_Md_control_203 : decode prog_9_method_31_code 203 = .ok (.sipush 255, 3) := by decide +kernel
theorem dd_Md_control_206 : decode prog_9_method_31_code 206 = .ok (.if_icmp .ne 42, 3) := by decide +kernel
theorem dd_Md_control_209 : decode prog_9_method_31_code 209 = .ok (.iload 10, 2) := by decide +kernel
theorem dd_Md_control_211 : decode prog_9_method_31_code 211 = .ok (.ifCond .eq 13, 3) := by decide +kernel
theorem dd_Md_control_214 : decode prog_9_method_31_code 214 = .ok (.aload_n 0, 1) := by decide +kernel
theorem dd_Md_control_215 : decode prog_9_method_31_code 215 = .ok (.iload_n 1, 1) := by decide +kernel
theorem dd_Md_control_216 : decode prog_9_method_31_code 216 = .ok (.bipush 20, 2) := by decide +kernel
theorem dd_Md_control_218 : decode prog_9_method_31_code 218 = .ok (.iload 7, 2) := by decide +kernel
theorem dd_Md_control_220 : decode prog_9_method_31_code 220 = .ok (.iadd, 1) := by decide +kernel
theorem dd_Md_control_221 : decode prog_9_method_31_code 221 = .ok (.invokevirtual 187, 3) := by decide +kernel
theorem dd_Md_control_224 : decode prog_9_method_31_code 224 = .ok (.iload 11, 2) := by decide +kernel
theorem dd_Md_control_226 : decode prog_9_method_31_code 226 = .ok (.ifCond .lt 22, 3) := by decide +kernel
theorem dd_Md_control_229 : decode prog_9_method_31_code 229 = .ok (.aload_n 0, 1) := by decide +kernel
theorem dd_Md_control_230 : decode prog_9_method_31_code 230 = .ok (.getfield 72, 3) := by decide +kernel
theorem dd_Md_control_233 : decode prog_9_method_31_code 233 = .ok (.iload 11, 2) := by decide +kernel
theorem dd_Md_control_235 : decode prog_9_method_31_code 235 = .ok (.iaload, 1) := by decide +kernel
theorem dd_Md_control_236 : decode prog_9_method_31_code 236 = .ok (.iload 9, 2) := by decide +kernel
theorem dd_Md_control_238 : decode prog_9_method_31_code 238 = .ok (.if_icmp .ne 10, 3) := by decide +kernel
theorem dd_Md_control_241 : decode prog_9_method_31_code 241 = .ok (.aload_n 0, 1) := by decide +kernel
theorem dd_Md_control_242 : decode prog_9_method_31_code 242 = .ok (.iload_n 1, 1) := by decide +kernel
theorem dd_Md_control_243 : decode prog_9_method_31_code 243 = .ok (.iload 11, 2) := by decide +kernel
theorem dd_Md_control_245 : decode prog_9_method_31_code 245 = .ok (.invokevirtual 191, 3) := by decide +kernel
theorem dd_Md_control_248 : decode prog_9_method_31_code 248 = .ok (.return_, 1) := by decide +kernel
theorem dd_Md_granted_0 : decode prog_9_method_32_code 0 = .ok (.aload_n 0, 1) := by decide +kernel
theorem dd_Md_granted_1 : decode prog_9_method_32_code 1 = .ok (.getfield 39, 3) := by decide +kernel
theorem dd_Md_granted_4 : decode prog_9_method_32_code 4 = .ok (.iload_n 1, 1) := by decide +kernel
theorem dd_Md_granted_5 : decode prog_9_method_32_code 5 = .ok (.iload_n 2, 1) := by decide +kernel
theorem dd_Md_granted_6 : decode prog_9_method_32_code 6 = .ok (.ifCond .le 7, 3) := by decide +kernel
theorem dd_Md_granted_9 : decode prog_9_method_32_code 9 = .ok (.iconst 2, 1) := by decide +kernel
theorem dd_Md_granted_10 : decode prog_9_method_32_code 10 = .ok (.goto 4, 3) := by decide +kernel
theorem dd_Md_granted_13 : decode prog_9_method_32_code 13 = .ok (.iconst 3, 1) := by decide +kernel
theorem dd_Md_granted_14 : decode prog_9_method_32_code 14 = .ok (.iastore, 1) := by decide +kernel
theorem dd_Md_granted_15 : decode prog_9_method_32_code 15 = .ok (.aload_n 0, 1) := by decide +kernel
theorem dd_Md_granted_16 : decode prog_9_method_32_code 16 = .ok (.getfield 60, 3) := by decide +kernel
theorem dd_Md_granted_19 : decode prog_9_method_32_code 19 = .ok (.iload_n 1, 1) := by decide +kernel
theorem dd_Md_granted_20 : decode prog_9_method_32_code 20 = .ok (.aload_n 0, 1) := by decide +kernel
theorem dd_Md_granted_21 : decode prog_9_method_32_code 21 = .ok (.getfield 153, 3) := by decide +kernel
theorem dd_Md_granted_24 : decode prog_9_method_32_code 24 = .ok (.iload_n 2, 1) := by decide +kernel
theorem dd_Md_granted_25 : decode prog_9_method_32_code 25 = .ok (.ifCond .le 9, 3) := by decide +kernel
theorem dd_Md_granted_28 : decode prog_9_method_32_code 28 = .ok (.sipush 1250, 3) := by decide +kernel
theorem dd_Md_granted_31 : decode prog_9_method_32_code 31 = .ok (.goto 6, 3) := by decide +kernel
theorem dd_Md_granted_34 : decode prog_9_method_32_code 34 = .ok (.sipush 1050, 3) := by decide +kernel
theorem dd_Md_granted_37 : decode prog_9_method_32_code 37 = .ok (.iadd, 1) := by decide +kernel
theorem dd_Md_granted_38 : decode prog_9_method_32_code 38 = .ok (.iastore, 1) := by decide +kernel
theorem dd_Md_granted_39 : decode prog_9_method_32_code 39 = .ok (.iload_n 3, 1) := by decide +kernel
theorem dd_Md_granted_40 : decode prog_9_method_32_code 40 = .ok (.istore 4, 2) := by decide +kernel
theorem dd_Md_granted_42 : decode prog_9_method_32_code 42 = .ok (.iload 4, 2) := by decide +kernel
theorem dd_Md_granted_44 : decode prog_9_method_32_code 44 = .ok (.iload_n 3, 1) := by decide +kernel
theorem dd_Md_granted_45 : decode prog_9_method_32_code 45 = .ok (.iload_n 2, 1) := by decide +kernel
theorem dd_Md_granted_46 : decode prog_9_method_32_code 46 = .ok (.iadd, 1) := by decide +kernel
theorem dd_Md_granted_47 : decode prog_9_method_32_code 47 = .ok (.if_icmp .ge 30, 3) := by decide +kernel
theorem dd_Md_granted_50 : decode prog_9_method_32_code 50 = .ok (.iload 4, 2) := by decide +kernel
theorem dd_Md_granted_52 : decode prog_9_method_32_code 52 = .ok (.aload_n 0, 1) := by decide +kernel
theorem dd_Md_granted_53 : decode prog_9_method_32_code 53 = .ok (.getfield 51, 3) := by decide +kernel
theorem dd_Md_granted_56 : decode prog_9_method_32_code 56 = .ok (.iload_n 1, 1) := by decide +kernel
theorem dd_Md_granted_57 : decode prog_9_method_32_code 57 = .ok (.iaload, 1) := by decide +kernel
theorem dd_Md_granted_58 : decode prog_9_method_32_code 58 = .ok (.invokestatic 170, 3) := by decide +kernel
theorem dd_Md_granted_61 : decode prog_9_method_32_code 61 = .ok (.if_icmp .gt 16, 3) := by decide +kernel
theorem dd_Md_granted_64 : decode prog_9_method_32_code 64 = .ok (.aload_n 0, 1) := by decide +kernel
theorem dd_Md_granted_65 : decode prog_9_method_32_code 65 = .ok (.iload_n 1, 1) := by decide +kernel
theorem dd_Md_granted_66 : decode prog_9_method_32_code 66 = .ok (.iload 4, 2) := by decide +kernel
theorem dd_Md_granted_68 : decode prog_9_method_32_code 68 = .ok (.invokevirtual 194, 3) := by decide +kernel
theorem dd_Md_granted_71 : decode prog_9_method_32_code 71 = .ok (.iinc 4 1, 3) := by decide +kernel
theorem dd_Md_granted_74 : decode prog_9_method_32_code 74 = .ok (.goto (-32), 3) := by decide +kernel
theorem dd_Md_granted_77 : decode prog_9_method_32_code 77 = .ok (.return_, 1) := by decide +kernel
theorem dd_Md_find_0 : decode prog_9_method_33_code 0 = .ok (.iconst 2, 1) := by decide +kernel
theorem dd_Md_find_1 : decode prog_9_method_33_code 1 = .ok (.iload_n 1, 1) := by decide +kernel
theorem dd_Md_find_2 : decode prog_9_method_33_code 2 = .ok (.imul, 1) := by decide +kernel
theorem dd_Md_find_3 : decode prog_9_method_33_code 3 = .ok (.istore 4, 2) := by decide +kernel
theorem dd_Md_find_5 : decode prog_9_method_33_code 5 = .ok (.iload 4, 2) := by decide +kernel
theorem dd_Md_find_7 : decode prog_9_method_33_code 7 = .ok (.iconst 2, 1) := by decide +kernel
theorem dd_Md_find_8 : decode prog_9_method_33_code 8 = .ok (.iload_n 1, 1) := by decide +kernel
theorem dd_Md_find_9 : decode prog_9_method_33_code 9 = .ok (.imul, 1) := by decide +kernel
theorem dd_Md_find_10 : decode prog_9_method_33_code 10 = .ok (.aload_n 0, 1) := by decide +kernel
theorem dd_Md_find_11 : decode prog_9_method_33_code 11 = .ok (.getfield 63, 3) := by decide +kernel
theorem dd_Md_find_14 : decode prog_9_method_33_code 14 = .ok (.iload_n 1, 1) := by decide +kernel
theorem dd_Md_find_15 : decode prog_9_method_33_code 15 = .ok (.iaload, 1) := by decide +kernel
theorem dd_Md_find_16 : decode prog_9_method_33_code 16 = .ok (.iadd, 1) := by decide +kernel
theorem dd_Md_find_17 : decode prog_9_method_33_code 17 = .ok (.if_icmp .ge 34, 3) := by decide +kernel
theorem dd_Md_find_20 : decode prog_9_method_33_code 20 = .ok (.aload_n 0, 1) := by decide +kernel
theorem dd_Md_find_21 : decode prog_9_method_33_code 21 = .ok (.getfield 69, 3) := by decide +kernel
theorem dd_Md_find_24 : decode prog_9_method_33_code 24 = .ok (.iload 4, 2) := by decide +kernel
theorem dd_Md_find_26 : decode prog_9_method_33_code 26 = .ok (.iaload, 1) := by decide +kernel
theorem dd_Md_find_27 : decode prog_9_method_33_code 27 = .ok (.iload_n 2, 1) := by decide +kernel
theorem dd_Md_find_28 : decode prog_9_method_33_code 28 = .ok (.if_icmp .ne 17, 3) := by decide +kernel
theorem dd_Md_find_31 : decode prog_9_method_33_code 31 = .ok (.aload_n 0, 1) := by decide +kernel
theorem dd_Md_find_32 : decode prog_9_method_33_code 32 = .ok (.getfield 66, 3) := by decide +kernel
theorem dd_Md_find_35 : decode prog_9_method_33_code 35 = .ok (.iload 4, 2) := by decide +kernel
theorem dd_Md_find_37 : decode prog_9_method_33_code 37 = .ok (.baload, 1) := by decide +kernel
theorem dd_Md_find_38 : decode prog_9_method_33_code 38 = .ok (.iload_n 3, 1) := by decide +kernel
theorem dd_Md_find_39 : decode prog_9_method_33_code 39 = .ok (.if_icmp .ne 6, 3) := by decide +kernel
theorem dd_Md_find_42 : decode prog_9_method_33_code 42 = .ok (.iload 4, 2) := by decide +kernel
theorem dd_Md_find_44 : decode prog_9_method_33_code 44 = .ok (.ireturn, 1) := by decide +kernel
theorem dd_Md_find_45 : decode prog_9_method_33_code 45 = .ok (.iinc 4 1, 3) := by decide +kernel
theorem dd_Md_find_48 : decode prog_9_method_33_code 48 = .ok (.goto (-43), 3) := by decide +kernel
theorem dd_Md_find_51 : decode prog_9_method_33_code 51 = .ok (.iconst (-1), 1) := by decide +kernel
theorem dd_Md_find_52 : decode prog_9_method_33_code 52 = .ok (.ireturn, 1) := by decide +kernel
theorem dd_Md_close_0 : decode prog_9_method_34_code 0 = .ok (.aload_n 0, 1) := by decide +kernel
theorem dd_Md_close_1 : decode prog_9_method_34_code 1 = .ok (.getfield 63, 3) := by decide +kernel
theorem dd_Md_close_4 : decode prog_9_method_34_code 4 = .ok (.iload_n 1, 1) := by decide +kernel
theorem dd_Md_close_5 : decode prog_9_method_34_code 5 = .ok (.dup2, 1) := by decide +kernel
theorem dd_Md_close_6 : decode prog_9_method_34_code 6 = .ok (.iaload, 1) := by decide +kernel
theorem dd_Md_close_7 : decode prog_9_method_34_code 7 = .ok (.iconst 1, 1) := by decide +kernel
theorem dd_Md_close_8 : decode prog_9_method_34_code 8 = .ok (.isub, 1) := by decide +kernel
theorem dd_Md_close_9 : decode prog_9_method_34_code 9 = .ok (.iastore, 1) := by decide +kernel
theorem dd_Md_close_10 : decode prog_9_method_34_code 10 = .ok (.iload_n 2, 1) := by decide +kernel
theorem dd_Md_close_11 : decode prog_9_method_34_code 11 = .ok (.iconst 2, 1) := by decide +kernel
theorem dd_Md_close_12 : decode prog_9_method_34_code 12 = .ok (.iload_n 1, 1) := by decide +kernel
theorem dd_Md_close_13 : decode prog_9_method_34_code 13 = .ok (.imul, 1) := by decide +kernel
theorem dd_Md_close_14 : decode prog_9_method_34_code 14 = .ok (.if_icmp .gt 12, 3) := by decide +kernel
theorem dd_Md_close_17 : decode prog_9_method_34_code 17 = .ok (.aload_n 0, 1) := by decide +kernel
theorem dd_Md_close_18 : decode prog_9_method_34_code 18 = .ok (.getfield 63, 3) := by decide +kernel
theorem dd_Md_close_21 : decode prog_9_method_34_code 21 = .ok (.iload_n 1, 1) := by decide +kernel
theorem dd_Md_close_22 : decode prog_9_method_34_code 22 = .ok (.iaload, 1) := by decide +kernel
theorem dd_Md_close_23 : decode prog_9_method_34_code 23 = .ok (.ifCond .ne 4, 3) := by decide +kernel
theorem dd_Md_close_26 : decode prog_9_method_34_code 26 = .ok (.return_, 1) := by decide +kernel
theorem dd_Md_close_27 : decode prog_9_method_34_code 27 = .ok (.iload_n 2, 1) := by decide +kernel
theorem dd_Md_close_28 : decode prog_9_method_34_code 28 = .ok (.iconst 1, 1) := by decide +kernel
theorem dd_Md_close_29 : decode prog_9_method_34_code 29 = .ok (.iadd, 1) := by decide +kernel
theorem dd_Md_close_30 : decode prog_9_method_34_code 30 = .ok (.istore_n 3, 1) := by decide +kernel
theorem dd_Md_close_31 : decode prog_9_method_34_code 31 = .ok (.aload_n 0, 1) := by decide +kernel
theorem dd_Md_close_32 : decode prog_9_method_34_code 32 = .ok (.getfield 66, 3) := by decide +kernel
theorem dd_Md_close_35 : decode prog_9_method_34_code 35 = .ok (.iload_n 2, 1) := by decide +kernel
theorem dd_Md_close_36 : decode prog_9_method_34_code 36 = .ok (.aload_n 0, 1) := by decide +kernel
theorem dd_Md_close_37 : decode prog_9_method_34_code 37 = .ok (.getfield 66, 3) := by decide +kernel
theorem dd_Md_close_40 : decode prog_9_method_34_code 40 = .ok (.iload_n 3, 1) := by decide +kernel
theorem dd_Md_close_41 : decode prog_9_method_34_code 41 = .ok (.baload, 1) := by decide +kernel
theorem dd_Md_close_42 : decode prog_9_method_34_code 42 = .ok (.bastore, 1) := by decide +kernel
theorem dd_Md_close_43 : decode prog_9_method_34_code 43 = .ok (.aload_n 0, 1) := by decide +kernel
theorem dd_Md_close_44 : decode prog_9_method_34_code 44 = .ok (.getfield 69, 3) := by decide +kernel
theorem dd_Md_close_47 : decode prog_9_method_34_code 47 = .ok (.iload_n 2, 1) := by decide +kernel
theorem dd_Md_close_48 : decode prog_9_method_34_code 48 = .ok (.aload_n 0, 1) := by decide +kernel
theorem dd_Md_close_49 : decode prog_9_method_34_code 49 = .ok (.getfield 69, 3) := by decide +kernel
theorem dd_Md_close_52 : decode prog_9_method_34_code 52 = .ok (.iload_n 3, 1) := by decide +kernel
theorem dd_Md_close_53 : decode prog_9_method_34_code 53 = .ok (.iaload, 1) := by decide +kernel
theorem dd_Md_close_54 : decode prog_9_method_34_code 54 = .ok (.iastore, 1) := by decide +kernel
theorem dd_Md_close_55 : decode prog_9_method_34_code 55 = .ok (.aload_n 0, 1) := by decide +kernel
theorem dd_Md_close_56 : decode prog_9_method_34_code 56 = .ok (.getfield 72, 3) := by decide +kernel
theorem dd_Md_close_59 : decode prog_9_method_34_code 59 = .ok (.iload_n 2, 1) := by decide +kernel
theorem dd_Md_close_60 : decode prog_9_method_34_code 60 = .ok (.aload_n 0, 1) := by decide +kernel
theorem dd_Md_close_61 : decode prog_9_method_34_code 61 = .ok (.getfield 72, 3) := by decide +kernel
theorem dd_Md_close_64 : decode prog_9_method_34_code 64 = .ok (.iload_n 3, 1) := by decide +kernel
theorem dd_Md_close_65 : decode prog_9_method_34_code 65 = .ok (.iaload, 1) := by decide +kernel
theorem dd_Md_close_66 : decode prog_9_method_34_code 66 = .ok (.iastore, 1) := by decide +kernel
theorem dd_Md_close_67 : decode prog_9_method_34_code 67 = .ok (.aload_n 0, 1) := by decide +kernel
theorem dd_Md_close_68 : decode prog_9_method_34_code 68 = .ok (.getfield 75, 3) := by decide +kernel
theorem dd_Md_close_71 : decode prog_9_method_34_code 71 = .ok (.iload_n 2, 1) := by decide +kernel
theorem dd_Md_close_72 : decode prog_9_method_34_code 72 = .ok (.aload_n 0, 1) := by decide +kernel
theorem dd_Md_close_73 : decode prog_9_method_34_code 73 = .ok (.getfield 75, 3) := by decide +kernel
theorem dd_Md_close_76 : decode prog_9_method_34_code 76 = .ok (.iload_n 3, 1) := by decide +kernel
theorem dd_Md_close_77 : decode prog_9_method_34_code 77 = .ok (.iaload, 1) := by decide +kernel
theorem dd_Md_close_78 : decode prog_9_method_34_code 78 = .ok (.iastore, 1) := by decide +kernel
theorem dd_Md_close_79 : decode prog_9_method_34_code 79 = .ok (.aload_n 0, 1) := by decide +kernel
theorem dd_Md_close_80 : decode prog_9_method_34_code 80 = .ok (.getfield 78, 3) := by decide +kernel
theorem dd_Md_close_83 : decode prog_9_method_34_code 83 = .ok (.iload_n 2, 1) := by decide +kernel
theorem dd_Md_close_84 : decode prog_9_method_34_code 84 = .ok (.aload_n 0, 1) := by decide +kernel
theorem dd_Md_close_85 : decode prog_9_method_34_code 85 = .ok (.getfield 78, 3) := by decide +kernel
theorem dd_Md_close_88 : decode prog_9_method_34_code 88 = .ok (.iload_n 3, 1) := by decide +kernel
theorem dd_Md_close_89 : decode prog_9_method_34_code 89 = .ok (.iaload, 1) := by decide +kernel
theorem dd_Md_close_90 : decode prog_9_method_34_code 90 = .ok (.iastore, 1) := by decide +kernel
theorem dd_Md_close_91 : decode prog_9_method_34_code 91 = .ok (.aload_n 0, 1) := by decide +kernel
theorem dd_Md_close_92 : decode prog_9_method_34_code 92 = .ok (.getfield 81, 3) := by decide +kernel
theorem dd_Md_close_95 : decode prog_9_method_34_code 95 = .ok (.iload_n 2, 1) := by decide +kernel
theorem dd_Md_close_96 : decode prog_9_method_34_code 96 = .ok (.aload_n 0, 1) := by decide +kernel
theorem dd_Md_close_97 : decode prog_9_method_34_code 97 = .ok (.getfield 81, 3) := by decide +kernel
theorem dd_Md_close_100 : decode prog_9_method_34_code 100 = .ok (.iload_n 3, 1) := by decide +kernel
theorem dd_Md_close_101 : decode prog_9_method_34_code 101 = .ok (.iaload, 1) := by decide +kernel
theorem dd_Md_close_102 : decode prog_9_method_34_code 102 = .ok (.iastore, 1) := by decide +kernel
theorem dd_Md_close_103 : decode prog_9_method_34_code 103 = .ok (.aload_n 0, 1) := by decide +kernel
theorem dd_Md_close_104 : decode prog_9_method_34_code 104 = .ok (.getfield 84, 3) := by decide +kernel
theorem dd_Md_close_107 : decode prog_9_method_34_code 107 = .ok (.iload_n 2, 1) := by decide +kernel
theorem dd_Md_close_108 : decode prog_9_method_34_code 108 = .ok (.aload_n 0, 1) := by decide +kernel
theorem dd_Md_close_109 : decode prog_9_method_34_code 109 = .ok (.getfield 84, 3) := by decide +kernel
theorem dd_Md_close_112 : decode prog_9_method_34_code 112 = .ok (.iload_n 3, 1) := by decide +kernel
theorem dd_Md_close_113 : decode prog_9_method_34_code 113 = .ok (.iaload, 1) := by decide +kernel
theorem dd_Md_close_114 : decode prog_9_method_34_code 114 = .ok (.iastore, 1) := by decide +kernel
theorem dd_Md_close_115 : decode prog_9_method_34_code 115 = .ok (.aload_n 0, 1) := by decide +kernel
theorem dd_Md_close_116 : decode prog_9_method_34_code 116 = .ok (.getfield 87, 3) := by decide +kernel
theorem dd_Md_close_119 : decode prog_9_method_34_code 119 = .ok (.iload_n 2, 1) := by decide +kernel
theorem dd_Md_close_120 : decode prog_9_method_34_code 120 = .ok (.aload_n 0, 1) := by decide +kernel
theorem dd_Md_close_121 : decode prog_9_method_34_code 121 = .ok (.getfield 87, 3) := by decide +kernel
theorem dd_Md_close_124 : decode prog_9_method_34_code 124 = .ok (.iload_n 3, 1) := by decide +kernel
theorem dd_Md_close_125 : decode prog_9_method_34_code 125 = .ok (.baload, 1) := by decide +kernel
theorem dd_Md_close_126 : decode prog_9_method_34_code 126 = .ok (.bastore, 1) := by decide +kernel
theorem dd_Md_close_127 : decode prog_9_method_34_code 127 = .ok (.aload_n 0, 1) := by decide +kernel
theorem dd_Md_close_128 : decode prog_9_method_34_code 128 = .ok (.getfield 90, 3) := by decide +kernel
theorem dd_Md_close_131 : decode prog_9_method_34_code 131 = .ok (.iload_n 2, 1) := by decide +kernel
theorem dd_Md_close_132 : decode prog_9_method_34_code 132 = .ok (.aload_n 0, 1) := by decide +kernel
theorem dd_Md_close_133 : decode prog_9_method_34_code 133 = .ok (.getfield 90, 3) := by decide +kernel
theorem dd_Md_close_136 : decode prog_9_method_34_code 136 = .ok (.iload_n 3, 1) := by decide +kernel
theorem dd_Md_close_137 : decode prog_9_method_34_code 137 = .ok (.iaload, 1) := by decide +kernel
theorem dd_Md_close_138 : decode prog_9_method_34_code 138 = .ok (.iastore, 1) := by decide +kernel
theorem dd_Md_close_139 : decode prog_9_method_34_code 139 = .ok (.iconst 0, 1) := by decide +kernel
theorem dd_Md_close_140 : decode prog_9_method_34_code 140 = .ok (.istore 4, 2) := by decide +kernel
theorem dd_Md_close_142 : decode prog_9_method_34_code 142 = .ok (.iload 4, 2) := by decide +kernel
theorem dd_Md_close_144 : decode prog_9_method_34_code 144 = .ok (.bipush 49, 2) := by decide +kernel
theorem dd_Md_close_146 : decode prog_9_method_34_code 146 = .ok (.if_icmp .ge 33, 3) := by decide +kernel
theorem dd_Md_close_149 : decode prog_9_method_34_code 149 = .ok (.aload_n 0, 1) := by decide +kernel
theorem dd_Md_close_150 : decode prog_9_method_34_code 150 = .ok (.getfield 93, 3) := by decide +kernel
theorem dd_Md_close_153 : decode prog_9_method_34_code 153 = .ok (.bipush 49, 2) := by decide +kernel
theorem dd_Md_close_155 : decode prog_9_method_34_code 155 = .ok (.iload_n 2, 1) := by decide +kernel
theorem dd_Md_close_156 : decode prog_9_method_34_code 156 = .ok (.imul, 1) := by decide +kernel
theorem dd_Md_close_157 : decode prog_9_method_34_code 157 = .ok (.iload 4, 2) := by decide +kernel
theorem dd_Md_close_159 : decode prog_9_method_34_code 159 = .ok (.iadd, 1) := by decide +kernel
theorem dd_Md_close_160 : decode prog_9_method_34_code 160 = .ok (.aload_n 0, 1) := by decide +kernel
theorem dd_Md_close_161 : decode prog_9_method_34_code 161 = .ok (.getfield 93, 3) := by decide +kernel
theorem dd_Md_close_164 : decode prog_9_method_34_code 164 = .ok (.bipush 49, 2) := by decide +kernel
theorem dd_Md_close_166 : decode prog_9_method_34_code 166 = .ok (.iload_n 3, 1) := by decide +kernel
theorem dd_Md_close_167 : decode prog_9_method_34_code 167 = .ok (.imul, 1) := by decide +kernel
theorem dd_Md_close_168 : decode prog_9_method_34_code 168 = .ok (.iload 4, 2) := by decide +kernel
theorem dd_Md_close_170 : decode prog_9_method_34_code 170 = .ok (.iadd, 1) := by decide +kernel
theorem dd_Md_close_171 : decode prog_9_method_34_code 171 = .ok (.iaload, 1) := by decide +kernel
theorem dd_Md_close_172 : decode prog_9_method_34_code 172 = .ok (.iastore, 1) := by decide +kernel
theorem dd_Md_close_173 : decode prog_9_method_34_code 173 = .ok (.iinc 4 1, 3) := by decide +kernel
theorem dd_Md_close_176 : decode prog_9_method_34_code 176 = .ok (.goto (-34), 3) := by decide +kernel
theorem dd_Md_close_179 : decode prog_9_method_34_code 179 = .ok (.return_, 1) := by decide +kernel
theorem dd_Md_opened_0 : decode prog_9_method_35_code 0 = .ok (.aload_n 0, 1) := by decide +kernel
theorem dd_Md_opened_1 : decode prog_9_method_35_code 1 = .ok (.iload_n 1, 1) := by decide +kernel
theorem dd_Md_opened_2 : decode prog_9_method_35_code 2 = .ok (.iload_n 2, 1) := by decide +kernel
theorem dd_Md_opened_3 : decode prog_9_method_35_code 3 = .ok (.iload 5, 2) := by decide +kernel
theorem dd_Md_opened_5 : decode prog_9_method_35_code 5 = .ok (.invokevirtual 175, 3) := by decide +kernel
theorem dd_Md_opened_8 : decode prog_9_method_35_code 8 = .ok (.istore 6, 2) := by decide +kernel
theorem dd_Md_opened_10 : decode prog_9_method_35_code 10 = .ok (.iload 6, 2) := by decide +kernel
theorem dd_Md_opened_12 : decode prog_9_method_35_code 12 = .ok (.ifCond .lt 13, 3) := by decide +kernel
theorem dd_Md_opened_15 : decode prog_9_method_35_code 15 = .ok (.aload_n 0, 1) := by decide +kernel
theorem dd_Md_opened_16 : decode prog_9_method_35_code 16 = .ok (.iload_n 1, 1) := by decide +kernel
theorem dd_Md_opened_17 : decode prog_9_method_35_code 17 = .ok (.iload 6, 2) := by decide +kernel
theorem dd_Md_opened_19 : decode prog_9_method_35_code 19 = .ok (.invokevirtual 191, 3) := by decide +kernel
theorem dd_Md_opened_22 : decode prog_9_method_35_code 22 = .ok (.goto 28, 3) := by decide +kernel
theorem dd_Md_opened_25 : decode prog_9_method_35_code 25 = .ok (.aload_n 0, 1) := by decide +kernel
theorem dd_Md_opened_26 : decode prog_9_method_35_code 26 = .ok (.getfield 63, 3) := by decide +kernel
theorem dd_Md_opened_29 : decode prog_9_method_35_code 29 = .ok (.iload_n 1, 1) := by decide +kernel
theorem dd_Md_opened_30 : decode prog_9_method_35_code 30 = .ok (.iaload, 1) := by decide +kernel
theorem dd_Md_opened_31 : decode prog_9_method_35_code 31 = .ok (.iconst 2, 1) := by decide +kernel
theorem dd_Md_opened_32 : decode prog_9_method_35_code 32 = .ok (.if_icmp .ne 18, 3) := by decide +kernel
theorem dd_Md_opened_35 : decode prog_9_method_35_code 35 = .ok (.iload 5, 2) := by decide +kernel
theorem dd_Md_opened_37 : decode prog_9_method_35_code 37 = .ok (.ifCond .ne 12, 3) := by decide +kernel
theorem dd_Md_opened_40 : decode prog_9_method_35_code 40 = .ok (.aload_n 0, 1) := by decide +kernel
theorem dd_Md_opened_41 : decode prog_9_method_35_code 41 = .ok (.iload_n 1, 1) := by decide +kernel
theorem dd_Md_opened_42 : decode prog_9_method_35_code 42 = .ok (.iload_n 2, 1) := by decide +kernel
theorem dd_Md_opened_43 : decode prog_9_method_35_code 43 = .ok (.iconst 2, 1) := by decide +kernel
theorem dd_Md_opened_44 : decode prog_9_method_35_code 44 = .ok (.iload 4, 2) := by decide +kernel
theorem dd_Md_opened_46 : decode prog_9_method_35_code 46 = .ok (.invokevirtual 197, 3) := by decide +kernel
theorem dd_Md_opened_49 : decode prog_9_method_35_code 49 = .ok (.return_, 1) := by decide +kernel
theorem dd_Md_opened_50 : decode prog_9_method_35_code 50 = .ok (.iconst 2, 1) := by decide +kernel
theorem dd_Md_opened_51 : decode prog_9_method_35_code 51 = .ok (.iload_n 1, 1) := by decide +kernel
theorem dd_Md_opened_52 : decode prog_9_method_35_code 52 = .ok (.imul, 1) := by decide +kernel
theorem dd_Md_opened_53 : decode prog_9_method_35_code 53 = .ok (.aload_n 0, 1) := by decide +kernel
theorem dd_Md_opened_54 : decode prog_9_method_35_code 54 = .ok (.getfield 63, 3) := by decide +kernel
theorem dd_Md_opened_57 : decode prog_9_method_35_code 57 = .ok (.iload_n 1, 1) := by decide +kernel
theorem dd_Md_opened_58 : decode prog_9_method_35_code 58 = .ok (.iaload, 1) := by decide +kernel
theorem dd_Md_opened_59 : decode prog_9_method_35_code 59 = .ok (.iadd, 1) := by decide +kernel
theorem dd_Md_opened_60 : decode prog_9_method_35_code 60 = .ok (.istore 7, 2) := by decide +kernel
theorem dd_Md_opened_62 : decode prog_9_method_35_code 62 = .ok (.aload_n 0, 1) := by decide +kernel
theorem dd_Md_opened_63 : decode prog_9_method_35_code 63 = .ok (.getfield 63, 3) := by decide +kernel
theorem dd_Md_opened_66 : decode prog_9_method_35_code 66 = .ok (.iload_n 1, 1) := by decide +kernel
theorem dd_Md_opened_67 : decode prog_9_method_35_code 67 = .ok (.dup2, 1) := by decide +kernel
theorem dd_Md_opened_68 : decode prog_9_method_35_code 68 = .ok (.iaload, 1) := by decide +kernel
theorem dd_Md_opened_69 : decode prog_9_method_35_code 69 = .ok (.iconst 1, 1) := by decide +kernel
theorem dd_Md_opened_70 : decode prog_9_method_35_code 70 = .ok (.iadd, 1) := by decide +kernel
theorem dd_Md_opened_71 : decode prog_9_method_35_code 71 = .ok (.iastore, 1) := by decide +kernel
theorem dd_Md_opened_72 : decode prog_9_method_35_code 72 = .ok (.aload_n 0, 1) := by decide +kernel
theorem dd_Md_opened_73 : decode prog_9_method_35_code 73 = .ok (.getfield 66, 3) := by decide +kernel
theorem dd_Md_opened_76 : decode prog_9_method_35_code 76 = .ok (.iload 7, 2) := by decide +kernel
theorem dd_Md_opened_78 : decode prog_9_method_35_code 78 = .ok (.iload 5, 2) := by decide +kernel
theorem dd_Md_opened_80 : decode prog_9_method_35_code 80 = .ok (.bastore, 1) := by decide +kernel
theorem dd_Md_opened_81 : decode prog_9_method_35_code 81 = .ok (.aload_n 0, 1) := by decide +kernel
theorem dd_Md_opened_82 : decode prog_9_method_35_code 82 = .ok (.getfield 69, 3) := by decide +kernel
theorem dd_Md_opened_85 : decode prog_9_method_35_code 85 = .ok (.iload 7, 2) := by decide +kernel
theorem dd_Md_opened_87 : decode prog_9_method_35_code 87 = .ok (.iload_n 2, 1) := by decide +kernel
theorem dd_Md_opened_88 : decode prog_9_method_35_code 88 = .ok (.iastore, 1) := by decide +kernel
theorem dd_Md_opened_89 : decode prog_9_method_35_code 89 = .ok (.aload_n 0, 1) := by decide +kernel
theorem dd_Md_opened_90 : decode prog_9_method_35_code 90 = .ok (.getfield 72, 3) := by decide +kernel
theorem dd_Md_opened_93 : decode prog_9_method_35_code 93 = .ok (.iload 7, 2) := by decide +kernel
theorem dd_Md_opened_95 : decode prog_9_method_35_code 95 = .ok (.iload 4, 2) := by decide +kernel
theorem dd_Md_opened_97 : decode prog_9_method_35_code 97 = .ok (.iastore, 1) := by decide +kernel
theorem dd_Md_opened_98 : decode prog_9_method_35_code 98 = .ok (.aload_n 0, 1) := by decide +kernel
theorem dd_Md_opened_99 : decode prog_9_method_35_code 99 = .ok (.getfield 75, 3) := by decide +kernel
theorem dd_Md_opened_102 : decode prog_9_method_35_code 102 = .ok (.iload 7, 2) := by decide +kernel
theorem dd_Md_opened_104 : decode prog_9_method_35_code 104 = .ok (.iload_n 3, 1) := by decide +kernel
theorem dd_Md_opened_105 : decode prog_9_method_35_code 105 = .ok (.iastore, 1) := by decide +kernel
theorem dd_Md_opened_106 : decode prog_9_method_35_code 106 = .ok (.aload_n 0, 1) := by decide +kernel
theorem dd_Md_opened_107 : decode prog_9_method_35_code 107 = .ok (.getfield 78, 3) := by decide +kernel
theorem dd_Md_opened_110 : decode prog_9_method_35_code 110 = .ok (.iload 7, 2) := by decide +kernel
theorem dd_Md_opened_112 : decode prog_9_method_35_code 112 = .ok (.iconst 1, 1) := by decide +kernel
theorem dd_Md_opened_113 : decode prog_9_method_35_code 113 = .ok (.iastore, 1) := by decide +kernel
theorem dd_Md_opened_114 : decode prog_9_method_35_code 114 = .ok (.aload_n 0, 1) := by decide +kernel
theorem dd_Md_opened_115 : decode prog_9_method_35_code 115 = .ok (.getfield 84, 3) := by decide +kernel
theorem dd_Md_opened_118 : decode prog_9_method_35_code 118 = .ok (.iload 7, 2) := by decide +kernel
theorem dd_Md_opened_120 : decode prog_9_method_35_code 120 = .ok (.iconst 0, 1) := by decide +kernel
theorem dd_Md_opened_121 : decode prog_9_method_35_code 121 = .ok (.iastore, 1) := by decide +kernel
theorem dd_Md_opened_122 : decode prog_9_method_35_code 122 = .ok (.aload_n 0, 1) := by decide +kernel
theorem dd_Md_opened_123 : decode prog_9_method_35_code 123 = .ok (.getfield 87, 3) := by decide +kernel
theorem dd_Md_opened_126 : decode prog_9_method_35_code 126 = .ok (.iload 7, 2) := by decide +kernel
theorem dd_Md_opened_128 : decode prog_9_method_35_code 128 = .ok (.iconst 0, 1) := by decide +kernel
theorem dd_Md_opened_129 : decode prog_9_method_35_code 129 = .ok (.bastore, 1) := by decide +kernel
theorem dd_Md_opened_130 : decode prog_9_method_35_code 130 = .ok (.aload_n 0, 1) := by decide +kernel
theorem dd_Md_opened_131 : decode prog_9_method_35_code 131 = .ok (.getfield 90, 3) := by decide +kernel
theorem dd_Md_opened_134 : decode prog_9_method_35_code 134 = .ok (.iload 7, 2) := by decide +kernel
theorem dd_Md_opened_136 : decode prog_9_method_35_code 136 = .ok (.aload_n 0, 1) := by decide +kernel
theorem dd_Md_opened_137 : decode prog_9_method_35_code 137 = .ok (.getfield 153, 3) := by decide +kernel
theorem dd_Md_opened_140 : decode prog_9_method_35_code 140 = .ok (.sipush 750, 3) := by decide +kernel
theorem dd_Md_opened_143 : decode prog_9_method_35_code 143 = .ok (.iadd, 1) := by decide +kernel
theorem dd_Md_opened_144 : decode prog_9_method_35_code 144 = .ok (.iastore, 1) := by decide +kernel
theorem dd_Md_opened_145 : decode prog_9_method_35_code 145 = .ok (.iload 5, 2) := by decide +kernel
theorem dd_Md_opened_147 : decode prog_9_method_35_code 147 = .ok (.ifCond .ne 10, 3) := by decide +kernel
theorem dd_Md_opened_150 : decode prog_9_method_35_code 150 = .ok (.aload_n 0, 1) := by decide +kernel
theorem dd_Md_opened_151 : decode prog_9_method_35_code 151 = .ok (.iload_n 1, 1) := by decide +kernel
theorem dd_Md_opened_152 : decode prog_9_method_35_code 152 = .ok (.iload 7, 2) := by decide +kernel
theorem dd_Md_opened_154 : decode prog_9_method_35_code 154 = .ok (.invokevirtual 201, 3) := by decide +kernel
theorem dd_Md_opened_157 : decode prog_9_method_35_code 157 = .ok (.return_, 1) := by decide +kernel
theorem dd_Md_grant_0 : decode prog_9_method_36_code 0 = .ok (.aload_n 0, 1) := by decide +kernel
theorem dd_Md_grant_1 : decode prog_9_method_36_code 1 = .ok (.getfield 75, 3) := by decide +kernel
theorem dd_Md_grant_4 : decode prog_9_method_36_code 4 = .ok (.iload_n 2, 1) := by decide +kernel
theorem dd_Md_grant_5 : decode prog_9_method_36_code 5 = .ok (.iaload, 1) := by decide +kernel
theorem dd_Md_grant_6 : decode prog_9_method_36_code 6 = .ok (.invokestatic 170, 3) := by decide +kernel
theorem dd_Md_grant_9 : decode prog_9_method_36_code 9 = .ok (.aload_n 0, 1) := by decide +kernel
theorem dd_Md_grant_10 : decode prog_9_method_36_code 10 = .ok (.getfield 78, 3) := by decide +kernel
theorem dd_Md_grant_13 : decode prog_9_method_36_code 13 = .ok (.iload_n 2, 1) := by decide +kernel
theorem dd_Md_grant_14 : decode prog_9_method_36_code 14 = .ok (.iaload, 1) := by decide +kernel
theorem dd_Md_grant_15 : decode prog_9_method_36_code 15 = .ok (.isub, 1) := by decide +kernel
theorem dd_Md_grant_16 : decode prog_9_method_36_code 16 = .ok (.iconst 1, 1) := by decide +kernel
theorem dd_Md_grant_17 : decode prog_9_method_36_code 17 = .ok (.iadd, 1) := by decide +kernel
theorem dd_Md_grant_18 : decode prog_9_method_36_code 18 = .ok (.istore_n 3, 1) := by decide +kernel
theorem dd_Md_grant_19 : decode prog_9_method_36_code 19 = .ok (.aload_n 0, 1) := by decide +kernel
theorem dd_Md_grant_20 : decode prog_9_method_36_code 20 = .ok (.getfield 20, 3) := by decide +kernel
theorem dd_Md_grant_23 : decode prog_9_method_36_code 23 = .ok (.iload_n 1, 1) := by decide +kernel
theorem dd_Md_grant_24 : decode prog_9_method_36_code 24 = .ok (.baload, 1) := by decide +kernel
theorem dd_Md_grant_25 : decode prog_9_method_36_code 25 = .ok (.ifCond .eq 7, 3) := by decide +kernel
theorem dd_Md_grant_28 : decode prog_9_method_36_code 28 = .ok (.iconst 0, 1) := by decide +kernel
theorem dd_Md_grant_29 : decode prog_9_method_36_code 29 = .ok (.goto 13, 3) := by decide +kernel
theorem dd_Md_grant_32 : decode prog_9_method_36_code 32 = .ok (.iload_n 3, 1) := by decide +kernel
theorem dd_Md_grant_33 : decode prog_9_method_36_code 33 = .ok (.iconst 3, 1) := by decide +kernel
theorem dd_Md_grant_34 : decode prog_9_method_36_code 34 = .ok (.if_icmp .ge 7, 3) := by decide +kernel
theorem dd_Md_grant_37 : decode prog_9_method_36_code 37 = .ok (.iload_n 3, 1) := by decide +kernel
theorem dd_Md_grant_38 : decode prog_9_method_36_code 38 = .ok (.goto 4, 3) := by decide +kernel
theorem dd_Md_grant_41 : decode prog_9_method_36_code 41 = .ok (.iconst 3, 1) := by decide +kernel
theorem dd_Md_grant_42 : decode prog_9_method_36_code 42 = .ok (.istore 4, 2) := by decide +kernel
theorem dd_Md_grant_44 : decode prog_9_method_36_code 44 = .ok (.aload_n 0, 1) := by decide +kernel
theorem dd_Md_grant_45 : decode prog_9_method_36_code 45 = .ok (.getfield 87, 3) := by decide +kernel
theorem dd_Md_grant_48 : decode prog_9_method_36_code 48 = .ok (.iload_n 2, 1) := by decide +kernel
theorem dd_Md_grant_49 : decode prog_9_method_36_code 49 = .ok (.iload 4, 2) := by decide +kernel
theorem dd_Md_grant_51 : decode prog_9_method_36_code 51 = .ok (.ifCond .ne 7, 3) := by decide +kernel
theorem dd_Md_grant_54 : decode prog_9_method_36_code 54 = .ok (.iconst 1, 1) := by decide +kernel
theorem dd_Md_grant_55 : decode prog_9_method_36_code 55 = .ok (.goto 4, 3) := by decide +kernel
theorem dd_Md_grant_58 : decode prog_9_method_36_code 58 = .ok (.iconst 0, 1) := by decide +kernel
theorem dd_Md_grant_59 : decode prog_9_method_36_code 59 = .ok (.bastore, 1) := by decide +kernel
theorem dd_Md_grant_60 : decode prog_9_method_36_code 60 = .ok (.aload_n 0, 1) := by decide +kernel
theorem dd_Md_grant_61 : decode prog_9_method_36_code 61 = .ok (.getfield 81, 3) := by decide +kernel
theorem dd_Md_grant_64 : decode prog_9_method_36_code 64 = .ok (.iload_n 2, 1) := by decide +kernel
theorem dd_Md_grant_65 : decode prog_9_method_36_code 65 = .ok (.aload_n 0, 1) := by decide +kernel
theorem dd_Md_grant_66 : decode prog_9_method_36_code 66 = .ok (.getfield 78, 3) := by decide +kernel
theorem dd_Md_grant_69 : decode prog_9_method_36_code 69 = .ok (.iload_n 2, 1) := by decide +kernel
theorem dd_Md_grant_70 : decode prog_9_method_36_code 70 = .ok (.iaload, 1) := by decide +kernel
theorem dd_Md_grant_71 : decode prog_9_method_36_code 71 = .ok (.iload 4, 2) := by decide +kernel
theorem dd_Md_grant_73 : decode prog_9_method_36_code 73 = .ok (.iadd, 1) := by decide +kernel
theorem dd_Md_grant_74 : decode prog_9_method_36_code 74 = .ok (.iconst 1, 1) := by decide +kernel
theorem dd_Md_grant_75 : decode prog_9_method_36_code 75 = .ok (.isub, 1) := by decide +kernel
theorem dd_Md_grant_76 : decode prog_9_method_36_code 76 = .ok (.iastore, 1) := by decide +kernel
theorem dd_Md_grant_77 : decode prog_9_method_36_code 77 = .ok (.aload_n 0, 1) := by decide +kernel
theorem dd_Md_grant_78 : decode prog_9_method_36_code 78 = .ok (.getfield 90, 3) := by decide +kernel
theorem dd_Md_grant_81 : decode prog_9_method_36_code 81 = .ok (.iload_n 2, 1) := by decide +kernel
theorem dd_Md_grant_82 : decode prog_9_method_36_code 82 = .ok (.aload_n 0, 1) := by decide +kernel
theorem dd_Md_grant_83 : decode prog_9_method_36_code 83 = .ok (.getfield 153, 3) := by decide +kernel
theorem dd_Md_grant_86 : decode prog_9_method_36_code 86 = .ok (.iload 4, 2) := by decide +kernel
theorem dd_Md_grant_88 : decode prog_9_method_36_code 88 = .ok (.ifCond .ne 9, 3) := by decide +kernel
theorem dd_Md_grant_91 : decode prog_9_method_36_code 91 = .ok (.sipush 500, 3) := by decide +kernel
theorem dd_Md_grant_94 : decode prog_9_method_36_code 94 = .ok (.goto 6, 3) := by decide +kernel
theorem dd_Md_grant_97 : decode prog_9_method_36_code 97 = .ok (.sipush 1250, 3) := by decide +kernel
theorem dd_Md_grant_100 : decode prog_9_method_36_code 100 = .ok (.iadd, 1) := by decide +kernel
theorem dd_Md_grant_101 : decode prog_9_method_36_code 101 = .ok (.iastore, 1) := by decide +kernel
theorem dd_Md_grant_102 : decode prog_9_method_36_code 102 = .ok (.aload_n 0, 1) := by decide +kernel
theorem dd_Md_grant_103 : decode prog_9_method_36_code 103 = .ok (.iload_n 1, 1) := by decide +kernel
theorem dd_Md_grant_104 : decode prog_9_method_36_code 104 = .ok (.aload_n 0, 1) := by decide +kernel
theorem dd_Md_grant_105 : decode prog_9_method_36_code 105 = .ok (.getfield 69, 3) := by decide +kernel
theorem dd_Md_grant_108 : decode prog_9_method_36_code 108 = .ok (.iload_n 2, 1) := by decide +kernel
theorem dd_Md_grant_109 : decode prog_9_method_36_code 109 = .ok (.iaload, 1) := by decide +kernel
theorem dd_Md_grant_110 : decode prog_9_method_36_code 110 = .ok (.bipush 17, 2) := by decide +kernel
theorem dd_Md_grant_112 : decode prog_9_method_36_code 112 = .ok (.iload 4, 2) := by decide +kernel
theorem dd_Md_grant_114 : decode prog_9_method_36_code 114 = .ok (.aload_n 0, 1) := by decide +kernel
theorem dd_Md_grant_115 : decode prog_9_method_36_code 115 = .ok (.getfield 78, 3) := by decide +kernel
theorem dd_Md_grant_118 : decode prog_9_method_36_code 118 = .ok (.iload_n 2, 1) := by decide +kernel
theorem dd_Md_grant_119 : decode prog_9_method_36_code 119 = .ok (.iaload, 1) := by decide +kernel
theorem dd_Md_grant_120 : decode prog_9_method_36_code 120 = .ok (.sipush 255, 3) := by decide +kernel
theorem dd_Md_grant_123 : decode prog_9_method_36_code 123 = .ok (.aload_n 0, 1) := by decide +kernel
theorem dd_Md_grant_124 : decode prog_9_method_36_code 124 = .ok (.getfield 72, 3) := by decide +kernel
theorem dd_Md_grant_127 : decode prog_9_method_36_code 127 = .ok (.iload_n 2, 1) := by decide +kernel
theorem dd_Md_grant_128 : decode prog_9_method_36_code 128 = .ok (.iaload, 1) := by decide +kernel
theorem dd_Md_grant_129 : decode prog_9_method_36_code 129 = .ok (.invokevirtual 122, 3) := by decide +kernel
theorem dd_Md_grant_132 : decode prog_9_method_36_code 132 = .ok (.return_, 1) := by decide +kernel
theorem dd_Md_askAgain_0 : decode prog_9_method_37_code 0 = .ok (.aload_n 0, 1) := by decide +kernel
theorem dd_Md_askAgain_1 : decode prog_9_method_37_code 1 = .ok (.getfield 84, 3) := by decide +kernel
theorem dd_Md_askAgain_4 : decode prog_9_method_37_code 4 = .ok (.iload_n 2, 1) := by decide +kernel
theorem dd_Md_askAgain_5 : decode prog_9_method_37_code 5 = .ok (.dup2, 1) := by decide +kernel
theorem dd_Md_askAgain_6 : decode prog_9_method_37_code 6 = .ok (.iaload, 1) := by decide +kernel
theorem dd_Md_askAgain_7 : decode prog_9_method_37_code 7 = .ok (.iconst 1, 1) := by decide +kernel
theorem dd_Md_askAgain_8 : decode prog_9_method_37_code 8 = .ok (.iadd, 1) := by decide +kernel
theorem dd_Md_askAgain_9 : decode prog_9_method_37_code 9 = .ok (.iastore, 1) := by decide +kernel
theorem dd_Md_askAgain_10 : decode prog_9_method_37_code 10 = .ok (.aload_n 0, 1) := by decide +kernel
theorem dd_Md_askAgain_11 : decode prog_9_method_37_code 11 = .ok (.getfield 84, 3) := by decide +kernel
theorem dd_Md_askAgain_14 : decode prog_9_method_37_code 14 = .ok (.iload_n 2, 1) := by decide +kernel
theorem dd_Md_askAgain_15 : decode prog_9_method_37_code 15 = .ok (.iaload, 1) := by decide +kernel
theorem dd_Md_askAgain_16 : decode prog_9_method_37_code 16 = .ok (.iconst 3, 1) := by decide +kernel
theorem dd_Md_askAgain_17 : decode prog_9_method_37_code 17 = .ok (.if_icmp .ge 12, 3) := by decide +kernel
theorem dd_Md_askAgain_20 : decode prog_9_method_37_code 20 = .ok (.aload_n 0, 1) := by decide +kernel
theorem dd_Md_askAgain_21 : decode prog_9_method_37_code 21 = .ok (.iload_n 1, 1) := by decide +kernel
theorem dd_Md_askAgain_22 : decode prog_9_method_37_code 22 = .ok (.iload_n 2, 1) := by decide +kernel
theorem dd_Md_askAgain_23 : decode prog_9_method_37_code 23 = .ok (.invokevirtual 201, 3) := by decide +kernel
theorem dd_Md_askAgain_26 : decode prog_9_method_37_code 26 = .ok (.goto 27, 3) := by decide +kernel
theorem dd_Md_askAgain_29 : decode prog_9_method_37_code 29 = .ok (.aload_n 0, 1) := by decide +kernel
theorem dd_Md_askAgain_30 : decode prog_9_method_37_code 30 = .ok (.iload_n 1, 1) := by decide +kernel
theorem dd_Md_askAgain_31 : decode prog_9_method_37_code 31 = .ok (.aload_n 0, 1) := by decide +kernel
theorem dd_Md_askAgain_32 : decode prog_9_method_37_code 32 = .ok (.getfield 69, 3) := by decide +kernel
theorem dd_Md_askAgain_35 : decode prog_9_method_37_code 35 = .ok (.iload_n 2, 1) := by decide +kernel
theorem dd_Md_askAgain_36 : decode prog_9_method_37_code 36 = .ok (.iaload, 1) := by decide +kernel
theorem dd_Md_askAgain_37 : decode prog_9_method_37_code 37 = .ok (.iload_n 3, 1) := by decide +kernel
theorem dd_Md_askAgain_38 : decode prog_9_method_37_code 38 = .ok (.aload_n 0, 1) := by decide +kernel
theorem dd_Md_askAgain_39 : decode prog_9_method_37_code 39 = .ok (.getfield 72, 3) := by decide +kernel
theorem dd_Md_askAgain_42 : decode prog_9_method_37_code 42 = .ok (.iload_n 2, 1) := by decide +kernel
theorem dd_Md_askAgain_43 : decode prog_9_method_37_code 43 = .ok (.iaload, 1) := by decide +kernel
theorem dd_Md_askAgain_44 : decode prog_9_method_37_code 44 = .ok (.invokevirtual 197, 3) := by decide +kernel
theorem dd_Md_askAgain_47 : decode prog_9_method_37_code 47 = .ok (.aload_n 0, 1) := by decide +kernel
theorem dd_Md_askAgain_48 : decode prog_9_method_37_code 48 = .ok (.iload_n 1, 1) := by decide +kernel
theorem dd_Md_askAgain_49 : decode prog_9_method_37_code 49 = .ok (.iload_n 2, 1) := by decide +kernel
theorem dd_Md_askAgain_50 : decode prog_9_method_37_code 50 = .ok (.invokevirtual 191, 3) := by decide +kernel
theorem dd_Md_askAgain_53 : decode prog_9_method_37_code 53 = .ok (.return_, 1) := by decide +kernel
theorem dd_Md_packet_0 : decode prog_9_method_38_code 0 = .ok (.lload 4, 2) := by decide +kernel
theorem dd_Md_packet_2 : decode prog_9_method_38_code 2 = .ok (.ldc2_w 126, 3) := by decide +kernel
theorem dd_Md_packet_5 : decode prog_9_method_38_code 5 = .ok (.land, 1) := by decide +kernel
theorem dd_Md_packet_6 : decode prog_9_method_38_code 6 = .ok (.l2i, 1) := by decide +kernel
theorem dd_Md_packet_7 : decode prog_9_method_38_code 7 = .ok (.istore 6, 2) := by decide +kernel
theorem dd_Md_packet_9 : decode prog_9_method_38_code 9 = .ok (.aload_n 0, 1) := by decide +kernel
theorem dd_Md_packet_10 : decode prog_9_method_38_code 10 = .ok (.iload_n 1, 1) := by decide +kernel
theorem dd_Md_packet_11 : decode prog_9_method_38_code 11 = .ok (.iload_n 3, 1) := by decide +kernel
theorem dd_Md_packet_12 : decode prog_9_method_38_code 12 = .ok (.iload_n 2, 1) := by decide +kernel
theorem dd_Md_packet_13 : decode prog_9_method_38_code 13 = .ok (.sipush 255, 3) := by decide +kernel
theorem dd_Md_packet_16 : decode prog_9_method_38_code 16 = .ok (.if_icmp .ne 7, 3) := by decide +kernel
theorem dd_Md_packet_19 : decode prog_9_method_38_code 19 = .ok (.iconst 1, 1) := by decide +kernel
theorem dd_Md_packet_20 : decode prog_9_method_38_code 20 = .ok (.goto 4, 3) := by decide +kernel
theorem dd_Md_packet_23 : decode prog_9_method_38_code 23 = .ok (.iconst 0, 1) := by decide +kernel
theorem dd_Md_packet_24 : decode prog_9_method_38_code 24 = .ok (.invokevirtual 175, 3) := by decide +kernel
theorem dd_Md_packet_27 : decode prog_9_method_38_code 27 = .ok (.istore 7, 2) := by decide +kernel
theorem dd_Md_packet_29 : decode prog_9_method_38_code 29 = .ok (.iload 7, 2) := by decide +kernel
theorem dd_Md_packet_31 : decode prog_9_method_38_code 31 = .ok (.ifCond .ge 4, 3) := by decide +kernel
theorem dd_Md_packet_34 : decode prog_9_method_38_code 34 = .ok (.return_, 1) := by decide +kernel
theorem dd_Md_packet_35 : decode prog_9_method_38_code 35 = .ok (.iload 6, 2) := by decide +kernel
theorem dd_Md_packet_37 : decode prog_9_method_38_code 37 = .ok (.aload_n 0, 1) := by decide +kernel
theorem dd_Md_packet_38 : decode prog_9_method_38_code 38 = .ok (.getfield 78, 3) := by decide +kernel
theorem dd_Md_packet_41 : decode prog_9_method_38_code 41 = .ok (.iload 7, 2) := by decide +kernel
theorem dd_Md_packet_43 : decode prog_9_method_38_code 43 = .ok (.iaload, 1) := by decide +kernel
theorem dd_Md_packet_44 : decode prog_9_method_38_code 44 = .ok (.if_icmp .ne 39, 3) := by decide +kernel
theorem dd_Md_packet_47 : decode prog_9_method_38_code 47 = .ok (.aload_n 0, 1) := by decide +kernel
theorem dd_Md_packet_48 : decode prog_9_method_38_code 48 = .ok (.getfield 66, 3) := by decide +kernel
theorem dd_Md_packet_51 : decode prog_9_method_38_code 51 = .ok (.iload 7, 2) := by decide +kernel
theorem dd_Md_packet_53 : decode prog_9_method_38_code 53 = .ok (.baload, 1) := by decide +kernel
theorem dd_Md_packet_54 : decode prog_9_method_38_code 54 = .ok (.ifCond .ne 15, 3) := by decide +kernel
theorem dd_Md_packet_57 : decode prog_9_method_38_code 57 = .ok (.iload 6, 2) := by decide +kernel
theorem dd_Md_packet_59 : decode prog_9_method_38_code 59 = .ok (.aload_n 0, 1) := by decide +kernel
theorem dd_Md_packet_60 : decode prog_9_method_38_code 60 = .ok (.getfield 81, 3) := by decide +kernel
theorem dd_Md_packet_63 : decode prog_9_method_38_code 63 = .ok (.iload 7, 2) := by decide +kernel
theorem dd_Md_packet_65 : decode prog_9_method_38_code 65 = .ok (.iaload, 1) := by decide +kernel
theorem dd_Md_packet_66 : decode prog_9_method_38_code 66 = .ok (.if_icmp .gt 17, 3) := by decide +kernel
theorem dd_Md_packet_69 : decode prog_9_method_38_code 69 = .ok (.aload_n 0, 1) := by decide +kernel
theorem dd_Md_packet_70 : decode prog_9_method_38_code 70 = .ok (.iload_n 1, 1) := by decide +kernel
theorem dd_Md_packet_71 : decode prog_9_method_38_code 71 = .ok (.iload 7, 2) := by decide +kernel
theorem dd_Md_packet_73 : decode prog_9_method_38_code 73 = .ok (.iload 6, 2) := by decide +kernel
theorem dd_Md_packet_75 : decode prog_9_method_38_code 75 = .ok (.lload 4, 2) := by decide +kernel
theorem dd_Md_packet_77 : decode prog_9_method_38_code 77 = .ok (.invokevirtual 204, 3) := by decide +kernel
theorem dd_Md_packet_80 : decode prog_9_method_38_code 80 = .ok (.goto 77, 3) := by decide +kernel
theorem dd_Md_packet_83 : decode prog_9_method_38_code 83 = .ok (.aload_n 0, 1) := by decide +kernel
theorem dd_Md_packet_84 : decode prog_9_method_38_code 84 = .ok (.getfield 66, 3) := by decide +kernel
theorem dd_Md_packet_87 : decode prog_9_method_38_code 87 = .ok (.iload 7, 2) := by decide +kernel
theorem dd_Md_packet_89 : decode prog_9_method_38_code 89 = .ok (.baload, 1) := by decide +kernel
theorem dd_Md_packet_90 : decode prog_9_method_38_code 90 = .ok (.ifCond .eq 25, 3) := by decide +kernel
theorem dd_Md_packet_93 : decode prog_9_method_38_code 93 = .ok (.iload 6, 2) := by decide +kernel
theorem dd_Md_packet_95 : decode prog_9_method_38_code 95 = .ok (.aload_n 0, 1) := by decide +kernel
theorem dd_Md_packet_96 : decode prog_9_method_38_code 96 = .ok (.getfield 78, 3) := by decide +kernel
theorem dd_Md_packet_99 : decode prog_9_method_38_code 99 = .ok (.iload 7, 2) := by decide +kernel
theorem dd_Md_packet_101 : decode prog_9_method_38_code 101 = .ok (.iaload, 1) := by decide +kernel
theorem dd_Md_packet_102 : decode prog_9_method_38_code 102 = .ok (.if_icmp .le 13, 3) := by decide +kernel
theorem dd_Md_packet_105 : decode prog_9_method_38_code 105 = .ok (.aload_n 0, 1) := by decide +kernel
theorem dd_Md_packet_106 : decode prog_9_method_38_code 106 = .ok (.iload_n 1, 1) := by decide +kernel
theorem dd_Md_packet_107 : decode prog_9_method_38_code 107 = .ok (.iload 7, 2) := by decide +kernel
theorem dd_Md_packet_109 : decode prog_9_method_38_code 109 = .ok (.invokevirtual 191, 3) := by decide +kernel
theorem dd_Md_packet_112 : decode prog_9_method_38_code 112 = .ok (.goto 45, 3) := by decide +kernel
theorem dd_Md_packet_115 : decode prog_9_method_38_code 115 = .ok (.aload_n 0, 1) := by decide +kernel
theorem dd_Md_packet_116 : decode prog_9_method_38_code 116 = .ok (.getfield 66, 3) := by decide +kernel
theorem dd_Md_packet_119 : decode prog_9_method_38_code 119 = .ok (.iload 7, 2) := by decide +kernel
theorem dd_Md_packet_121 : decode prog_9_method_38_code 121 = .ok (.baload, 1) := by decide +kernel
theorem dd_Md_packet_122 : decode prog_9_method_38_code 122 = .ok (.ifCond .ne 35, 3) := by decide +kernel
theorem dd_Md_packet_125 : decode prog_9_method_38_code 125 = .ok (.iload 6, 2) := by decide +kernel
theorem dd_Md_packet_127 : decode prog_9_method_38_code 127 = .ok (.aload_n 0, 1) := by decide +kernel
theorem dd_Md_packet_128 : decode prog_9_method_38_code 128 = .ok (.getfield 81, 3) := by decide +kernel
theorem dd_Md_packet_131 : decode prog_9_method_38_code 131 = .ok (.iload 7, 2) := by decide +kernel
theorem dd_Md_packet_133 : decode prog_9_method_38_code 133 = .ok (.iaload, 1) := by decide +kernel
theorem dd_Md_packet_134 : decode prog_9_method_38_code 134 = .ok (.if_icmp .ne 23, 3) := by decide +kernel
theorem dd_Md_packet_137 : decode prog_9_method_38_code 137 = .ok (.iload 6, 2) := by decide +kernel
theorem dd_Md_packet_139 : decode prog_9_method_38_code 139 = .ok (.aload_n 0, 1) := by decide +kernel
theorem dd_Md_packet_140 : decode prog_9_method_38_code 140 = .ok (.getfield 78, 3) := by decide +kernel
theorem dd_Md_packet_143 : decode prog_9_method_38_code 143 = .ok (.iload 7, 2) := by decide +kernel
theorem dd_Md_packet_145 : decode prog_9_method_38_code 145 = .ok (.iaload, 1) := by decide +kernel
theorem dd_Md_packet_146 : decode prog_9_method_38_code 146 = .ok (.if_icmp .le 11, 3) := by decide +kernel
theorem dd_Md_packet_149 : decode prog_9_method_38_code 149 = .ok (.aload_n 0, 1) := by decide +kernel
theorem dd_Md_packet_150 : decode prog_9_method_38_code 150 = .ok (.iload_n 1, 1) := by decide +kernel
theorem dd_Md_packet_151 : decode prog_9_method_38_code 151 = .ok (.iload 7, 2) := by decide +kernel
theorem dd_Md_packet_153 : decode prog_9_method_38_code 153 = .ok (.iconst 5, 1) := by decide +kernel
theorem dd_Md_packet_154 : decode prog_9_method_38_code 154 = .ok (.invokevirtual 207, 3) := by decide +kernel
theorem dd_Md_packet_157 : decode prog_9_method_38_code 157 = .ok (.return_, 1) := by decide +kernel
theorem dd_Md_keep_0 : decode prog_9_method_39_code 0 = .ok (.iconst 0, 1) := by decide +kernel
theorem dd_Md_keep_1 : decode prog_9_method_39_code 1 = .ok (.istore 6, 2) := by decide +kernel
theorem dd_Md_keep_3 : decode prog_9_method_39_code 3 = .ok (.iload 6, 2) := by decide +kernel
theorem dd_Md_keep_5 : decode prog_9_method_39_code 5 = .ok (.bipush 7, 2) := by decide +kernel
theorem dd_Md_keep_7 : decode prog_9_method_39_code 7 = .ok (.if_icmp .ge 60, 3) := by decide +kernel
theorem dd_Md_keep_10 : decode prog_9_method_39_code 10 = .ok (.bipush 7, 2) := by decide +kernel
theorem dd_Md_keep_12 : decode prog_9_method_39_code 12 = .ok (.iload_n 3, 1) := by decide +kernel
theorem dd_Md_keep_13 : decode prog_9_method_39_code 13 = .ok (.imul, 1) := by decide +kernel
theorem dd_Md_keep_14 : decode prog_9_method_39_code 14 = .ok (.bipush 7, 2) := by decide +kernel
theorem dd_Md_keep_16 : decode prog_9_method_39_code 16 = .ok (.isub, 1) := by decide +kernel
theorem dd_Md_keep_17 : decode prog_9_method_39_code 17 = .ok (.iload 6, 2) := by decide +kernel
theorem dd_Md_keep_19 : decode prog_9_method_39_code 19 = .ok (.iadd, 1) := by decide +kernel
theorem dd_Md_keep_20 : decode prog_9_method_39_code 20 = .ok (.bipush 49, 2) := by decide +kernel
theorem dd_Md_keep_22 : decode prog_9_method_39_code 22 = .ok (.if_icmp .ge 45, 3) := by decide +kernel
theorem dd_Md_keep_25 : decode prog_9_method_39_code 25 = .ok (.aload_n 0, 1) := by decide +kernel
theorem dd_Md_keep_26 : decode prog_9_method_39_code 26 = .ok (.getfield 93, 3) := by decide +kernel
theorem dd_Md_keep_29 : decode prog_9_method_39_code 29 = .ok (.bipush 49, 2) := by decide +kernel
theorem dd_Md_keep_31 : decode prog_9_method_39_code 31 = .ok (.iload_n 2, 1) := by decide +kernel
theorem dd_Md_keep_32 : decode prog_9_method_39_code 32 = .ok (.imul, 1) := by decide +kernel
theorem dd_Md_keep_33 : decode prog_9_method_39_code 33 = .ok (.bipush 7, 2) := by decide +kernel
theorem dd_Md_keep_35 : decode prog_9_method_39_code 35 = .ok (.iload_n 3, 1) := by decide +kernel
theorem dd_Md_keep_36 : decode prog_9_method_39_code 36 = .ok (.imul, 1) := by decide +kernel
theorem dd_Md_keep_37 : decode prog_9_method_39_code 37 = .ok (.iadd, 1) := by decide +kernel
theorem dd_Md_keep_38 : decode prog_9_method_39_code 38 = .ok (.bipush 7, 2) := by decide +kernel
theorem dd_Md_keep_40 : decode prog_9_method_39_code 40 = .ok (.isub, 1) := by decide +kernel
theorem dd_Md_keep_41 : decode prog_9_method_39_code 41 = .ok (.iload 6, 2) := by decide +kernel
theorem dd_Md_keep_43 : decode prog_9_method_39_code 43 = .ok (.iadd, 1) := by decide +kernel
theorem dd_Md_keep_44 : decode prog_9_method_39_code 44 = .ok (.lload 4, 2) := by decide +kernel
theorem dd_Md_keep_46 : decode prog_9_method_39_code 46 = .ok (.bipush 8, 2) := by decide +kernel
theorem dd_Md_keep_48 : decode prog_9_method_39_code 48 = .ok (.iload 6, 2) := by decide +kernel
theorem dd_Md_keep_50 : decode prog_9_method_39_code 50 = .ok (.imul, 1) := by decide +kernel
theorem dd_Md_keep_51 : decode prog_9_method_39_code 51 = .ok (.bipush 8, 2) := by decide +kernel
theorem dd_Md_keep_53 : decode prog_9_method_39_code 53 = .ok (.iadd, 1) := by decide +kernel
theorem dd_Md_keep_54 : decode prog_9_method_39_code 54 = .ok (.lshr, 1) := by decide +kernel
theorem dd_Md_keep_55 : decode prog_9_method_39_code 55 = .ok (.ldc2_w 126, 3) := by decide +kernel
theorem dd_Md_keep_58 : decode prog_9_method_39_code 58 = .ok (.land, 1) := by decide +kernel
theorem dd_Md_keep_59 : decode prog_9_method_39_code 59 = .ok (.l2i, 1) := by decide +kernel
theorem dd_Md_keep_60 : decode prog_9_method_39_code 60 = .ok (.iastore, 1) := by decide +kernel
theorem dd_Md_keep_61 : decode prog_9_method_39_code 61 = .ok (.iinc 6 1, 3) := by decide +kernel
theorem dd_Md_keep_64 : decode prog_9_method_39_code 64 = .ok (.goto (-61), 3) := by decide +kernel
theorem dd_Md_keep_67 : decode prog_9_method_39_code 67 = .ok (.aload_n 0, 1) := by decide +kernel
theorem dd_Md_keep_68 : decode prog_9_method_39_code 68 = .ok (.getfield 78, 3) := by decide +kernel
theorem dd_Md_keep_71 : decode prog_9_method_39_code 71 = .ok (.iload_n 2, 1) := by decide +kernel
theorem dd_Md_keep_72 : decode prog_9_method_39_code 72 = .ok (.dup2, 1) := by decide +kernel
theorem dd_Md_keep_73 : decode prog_9_method_39_code 73 = .ok (.iaload, 1) := by decide +kernel
theorem dd_Md_keep_74 : decode prog_9_method_39_code 74 = .ok (.iconst 1, 1) := by decide +kernel
theorem dd_Md_keep_75 : decode prog_9_method_39_code 75 = .ok (.iadd, 1) := by decide +kernel
theorem dd_Md_keep_76 : decode prog_9_method_39_code 76 = .ok (.iastore, 1) := by decide +kernel
theorem dd_Md_keep_77 : decode prog_9_method_39_code 77 = .ok (.aload_n 0, 1) := by decide +kernel
theorem dd_Md_keep_78 : decode prog_9_method_39_code 78 = .ok (.getfield 75, 3) := by decide +kernel
theorem dd_Md_keep_81 : decode prog_9_method_39_code 81 = .ok (.iload_n 2, 1) := by decide +kernel
theorem dd_Md_keep_82 : decode prog_9_method_39_code 82 = .ok (.iaload, 1) := by decide +kernel
theorem dd_Md_keep_83 : decode prog_9_method_39_code 83 = .ok (.invokestatic 170, 3) := by decide +kernel
theorem dd_Md_keep_86 : decode prog_9_method_39_code 86 = .ok (.istore 6, 2) := by decide +kernel
theorem dd_Md_keep_88 : decode prog_9_method_39_code 88 = .ok (.iload_n 3, 1) := by decide +kernel
theorem dd_Md_keep_89 : decode prog_9_method_39_code 89 = .ok (.iload 6, 2) := by decide +kernel
theorem dd_Md_keep_91 : decode prog_9_method_39_code 91 = .ok (.if_icmp .ge 46, 3) := by decide +kernel
theorem dd_Md_keep_94 : decode prog_9_method_39_code 94 = .ok (.aload_n 0, 1) := by decide +kernel
theorem dd_Md_keep_95 : decode prog_9_method_39_code 95 = .ok (.getfield 66, 3) := by decide +kernel
theorem dd_Md_keep_98 : decode prog_9_method_39_code 98 = .ok (.iload_n 2, 1) := by decide +kernel
theorem dd_Md_keep_99 : decode prog_9_method_39_code 99 = .ok (.baload, 1) := by decide +kernel
theorem dd_Md_keep_100 : decode prog_9_method_39_code 100 = .ok (.ifCond .ne 22, 3) := by decide +kernel
theorem dd_Md_keep_103 : decode prog_9_method_39_code 103 = .ok (.iload_n 3, 1) := by decide +kernel
theorem dd_Md_keep_104 : decode prog_9_method_39_code 104 = .ok (.aload_n 0, 1) := by decide +kernel
theorem dd_Md_keep_105 : decode prog_9_method_39_code 105 = .ok (.getfield 81, 3) := by decide +kernel
theorem dd_Md_keep_108 : decode prog_9_method_39_code 108 = .ok (.iload_n 2, 1) := by decide +kernel
theorem dd_Md_keep_109 : decode prog_9_method_39_code 109 = .ok (.iaload, 1) := by decide +kernel
theorem dd_Md_keep_110 : decode prog_9_method_39_code 110 = .ok (.if_icmp .ne 12, 3) := by decide +kernel
theorem dd_Md_keep_113 : decode prog_9_method_39_code 113 = .ok (.aload_n 0, 1) := by decide +kernel
theorem dd_Md_keep_114 : decode prog_9_method_39_code 114 = .ok (.iload_n 1, 1) := by decide +kernel
theorem dd_Md_keep_115 : decode prog_9_method_39_code 115 = .ok (.iload_n 2, 1) := by decide +kernel
theorem dd_Md_keep_116 : decode prog_9_method_39_code 116 = .ok (.invokevirtual 201, 3) := by decide +kernel
theorem dd_Md_keep_119 : decode prog_9_method_39_code 119 = .ok (.goto 17, 3) := by decide +kernel
theorem dd_Md_keep_122 : decode prog_9_method_39_code 122 = .ok (.aload_n 0, 1) := by decide +kernel
theorem dd_Md_keep_123 : decode prog_9_method_39_code 123 = .ok (.getfield 90, 3) := by decide +kernel
theorem dd_Md_keep_126 : decode prog_9_method_39_code 126 = .ok (.iload_n 2, 1) := by decide +kernel
theorem dd_Md_keep_127 : decode prog_9_method_39_code 127 = .ok (.aload_n 0, 1) := by decide +kernel
theorem dd_Md_keep_128 : decode prog_9_method_39_code 128 = .ok (.getfield 153, 3) := by decide +kernel
theorem dd_Md_keep_131 : decode prog_9_method_39_code 131 = .ok (.sipush 750, 3) := by decide +kernel
theorem dd_Md_keep_134 : decode prog_9_method_39_code 134 = .ok (.iadd, 1) := by decide +kernel
theorem dd_Md_keep_135 : decode prog_9_method_39_code 135 = .ok (.iastore, 1) := by decide +kernel
theorem dd_Md_keep_136 : decode prog_9_method_39_code 136 = .ok (.return_, 1) := by decide +kernel
theorem dd_Md_keep_137 : decode prog_9_method_39_code 137 = .ok (.aload_n 0, 1) := by decide +kernel
theorem dd_Md_keep_138 : decode prog_9_method_39_code 138 = .ok (.getfield 66, 3) := by decide +kernel
theorem dd_Md_keep_141 : decode prog_9_method_39_code 141 = .ok (.iload_n 2, 1) := by decide +kernel
theorem dd_Md_keep_142 : decode prog_9_method_39_code 142 = .ok (.baload, 1) := by decide +kernel
theorem dd_Md_keep_143 : decode prog_9_method_39_code 143 = .ok (.ifCond .ne 43, 3) := by decide +kernel
theorem dd_Md_keep_146 : decode prog_9_method_39_code 146 = .ok (.aload_n 0, 1) := by decide +kernel
theorem dd_Md_keep_147 : decode prog_9_method_39_code 147 = .ok (.iload_n 1, 1) := by decide +kernel
theorem dd_Md_keep_148 : decode prog_9_method_39_code 148 = .ok (.aload_n 0, 1) := by decide +kernel
theorem dd_Md_keep_149 : decode prog_9_method_39_code 149 = .ok (.getfield 69, 3) := by decide +kernel
theorem dd_Md_keep_152 : decode prog_9_method_39_code 152 = .ok (.iload_n 2, 1) := by decide +kernel
theorem dd_Md_keep_153 : decode prog_9_method_39_code 153 = .ok (.iaload, 1) := by decide +kernel
theorem dd_Md_keep_154 : decode prog_9_method_39_code 154 = .ok (.bipush 19, 2) := by decide +kernel
theorem dd_Md_keep_156 : decode prog_9_method_39_code 156 = .ok (.aload_n 0, 1) := by decide +kernel
theorem dd_Md_keep_157 : decode prog_9_method_39_code 157 = .ok (.getfield 75, 3) := by decide +kernel
theorem dd_Md_keep_160 : decode prog_9_method_39_code 160 = .ok (.iload_n 2, 1) := by decide +kernel
theorem dd_Md_keep_161 : decode prog_9_method_39_code 161 = .ok (.iaload, 1) := by decide +kernel
theorem dd_Md_keep_162 : decode prog_9_method_39_code 162 = .ok (.sipush 255, 3) := by decide +kernel
theorem dd_Md_keep_165 : decode prog_9_method_39_code 165 = .ok (.iand, 1) := by decide +kernel
theorem dd_Md_keep_166 : decode prog_9_method_39_code 166 = .ok (.aload_n 0, 1) := by decide +kernel
theorem dd_Md_keep_167 : decode prog_9_method_39_code 167 = .ok (.getfield 75, 3) := by decide +kernel
theorem dd_Md_keep_170 : decode prog_9_method_39_code 170 = .ok (.iload_n 2, 1) := by decide +kernel
theorem dd_Md_keep_171 : decode prog_9_method_39_code 171 = .ok (.iaload, 1) := by decide +kernel
theorem dd_Md_keep_172 : decode prog_9_method_39_code 172 = .ok (.bipush 8, 2) := by decide +kernel
theorem dd_Md_keep_174 : decode prog_9_method_39_code 174 = .ok (.ishr, 1) := by decide +kernel
theorem dd_Md_keep_175 : decode prog_9_method_39_code 175 = .ok (.iload 6, 2) := by decide +kernel
theorem dd_Md_keep_177 : decode prog_9_method_39_code 177 = .ok (.aload_n 0, 1) := by decide +kernel
theorem dd_Md_keep_178 : decode prog_9_method_39_code 178 = .ok (.getfield 72, 3) := by decide +kernel
theorem dd_Md_keep_181 : decode prog_9_method_39_code 181 = .ok (.iload_n 2, 1) := by decide +kernel
theorem dd_Md_keep_182 : decode prog_9_method_39_code 182 = .ok (.iaload, 1) := by decide +kernel
theorem dd_Md_keep_183 : decode prog_9_method_39_code 183 = .ok (.invokevirtual 122, 3) := by decide +kernel
theorem dd_Md_keep_186 : decode prog_9_method_39_code 186 = .ok (.aload_n 0, 1) := by decide +kernel
theorem dd_Md_keep_187 : decode prog_9_method_39_code 187 = .ok (.getfield 96, 3) := by decide +kernel
theorem dd_Md_keep_190 : decode prog_9_method_39_code 190 = .ok (.iload_n 1, 1) := by decide +kernel
theorem dd_Md_keep_191 : decode prog_9_method_39_code 191 = .ok (.dup2, 1) := by decide +kernel
theorem dd_Md_keep_192 : decode prog_9_method_39_code 192 = .ok (.iaload, 1) := by decide +kernel
theorem dd_Md_keep_193 : decode prog_9_method_39_code 193 = .ok (.iconst 1, 1) := by decide +kernel
theorem dd_Md_keep_194 : decode prog_9_method_39_code 194 = .ok (.iadd, 1) := by decide +kernel
theorem dd_Md_keep_195 : decode prog_9_method_39_code 195 = .ok (.iastore, 1) := by decide +kernel
theorem dd_Md_keep_196 : decode prog_9_method_39_code 196 = .ok (.aload_n 0, 1) := by decide +kernel
theorem dd_Md_keep_197 : decode prog_9_method_39_code 197 = .ok (.getfield 99, 3) := by decide +kernel
theorem dd_Md_keep_200 : decode prog_9_method_39_code 200 = .ok (.iconst 4, 1) := by decide +kernel
theorem dd_Md_keep_201 : decode prog_9_method_39_code 201 = .ok (.iload_n 1, 1) := by decide +kernel
theorem dd_Md_keep_202 : decode prog_9_method_39_code 202 = .ok (.imul, 1) := by decide +kernel
theorem dd_Md_keep_203 : decode prog_9_method_39_code 203 = .ok (.aload_n 0, 1) := by decide +kernel
theorem dd_Md_keep_204 : decode prog_9_method_39_code 204 = .ok (.getfield 69, 3) := by decide +kernel
theorem dd_Md_keep_207 : decode prog_9_method_39_code 207 = .ok (.iload_n 2, 1) := by decide +kernel
theorem dd_Md_keep_208 : decode prog_9_method_39_code 208 = .ok (.iaload, 1) := by decide +kernel
theorem dd_Md_keep_209 : decode prog_9_method_39_code 209 = .ok (.iastore, 1) := by decide +kernel
theorem dd_Md_keep_210 : decode prog_9_method_39_code 210 = .ok (.aload_n 0, 1) := by decide +kernel
theorem dd_Md_keep_211 : decode prog_9_method_39_code 211 = .ok (.getfield 99, 3) := by decide +kernel
theorem dd_Md_keep_214 : decode prog_9_method_39_code 214 = .ok (.iconst 4, 1) := by decide +kernel
theorem dd_Md_keep_215 : decode prog_9_method_39_code 215 = .ok (.iload_n 1, 1) := by decide +kernel
theorem dd_Md_keep_216 : decode prog_9_method_39_code 216 = .ok (.imul, 1) := by decide +kernel
theorem dd_Md_keep_217 : decode prog_9_method_39_code 217 = .ok (.iconst 1, 1) := by decide +kernel
theorem dd_Md_keep_218 : decode prog_9_method_39_code 218 = .ok (.iadd, 1) := by decide +kernel
theorem dd_Md_keep_219 : decode prog_9_method_39_code 219 = .ok (.aload_n 0, 1) := by decide +kernel
theorem dd_Md_keep_220 : decode prog_9_method_39_code 220 = .ok (.getfield 72, 3) := by decide +kernel
theorem dd_Md_keep_223 : decode prog_9_method_39_code 223 = .ok (.iload_n 2, 1) := by decide +kernel
theorem dd_Md_keep_224 : decode prog_9_method_39_code 224 = .ok (.iaload, 1) := by decide +kernel
theorem dd_Md_keep_225 : decode prog_9_method_39_code 225 = .ok (.iastore, 1) := by decide +kernel
theorem dd_Md_keep_226 : decode prog_9_method_39_code 226 = .ok (.aload_n 0, 1) := by decide +kernel
theorem dd_Md_keep_227 : decode prog_9_method_39_code 227 = .ok (.getfield 99, 3) := by decide +kernel
theorem dd_Md_keep_230 : decode prog_9_method_39_code 230 = .ok (.iconst 4, 1) := by decide +kernel
theorem dd_Md_keep_231 : decode prog_9_method_39_code 231 = .ok (.iload_n 1, 1) := by decide +kernel
theorem dd_Md_keep_232 : decode prog_9_method_39_code 232 = .ok (.imul, 1) := by decide +kernel
theorem dd_Md_keep_233 : decode prog_9_method_39_code 233 = .ok (.iconst 2, 1) := by decide +kernel
theorem dd_Md_keep_234 : decode prog_9_method_39_code 234 = .ok (.iadd, 1) := by decide +kernel
theorem dd_Md_keep_235 : decode prog_9_method_39_code 235 = .ok (.aload_n 0, 1) := by decide +kernel
theorem dd_Md_keep_236 : decode prog_9_method_39_code 236 = .ok (.getfield 75, 3) := by decide +kernel
theorem dd_Md_keep_239 : decode prog_9_method_39_code 239 = .ok (.iload_n 2, 1) := by decide +kernel
theorem dd_Md_keep_240 : decode prog_9_method_39_code 240 = .ok (.iaload, 1) := by decide +kernel
theorem dd_Md_keep_241 : decode prog_9_method_39_code 241 = .ok (.iastore, 1) := by decide +kernel
theorem dd_Md_keep_242 : decode prog_9_method_39_code 242 = .ok (.aload_n 0, 1) := by decide +kernel
theorem dd_Md_keep_243 : decode prog_9_method_39_code 243 = .ok (.getfield 99, 3) := by decide +kernel
theorem dd_Md_keep_246 : decode prog_9_method_39_code 246 = .ok (.iconst 4, 1) := by decide +kernel
theorem dd_Md_keep_247 : decode prog_9_method_39_code 247 = .ok (.iload_n 1, 1) := by decide +kernel
theorem dd_Md_keep_248 : decode prog_9_method_39_code 248 = .ok (.imul, 1) := by decide +kernel
theorem dd_Md_keep_249 : decode prog_9_method_39_code 249 = .ok (.iconst 3, 1) := by decide +kernel
theorem dd_Md_keep_250 : decode prog_9_method_39_code 250 = .ok (.iadd, 1) := by decide +kernel
theorem dd_Md_keep_251 : decode prog_9_method_39_code 251 = .ok (.aload_n 0, 1) := by decide +kernel
theorem dd_Md_keep_252 : decode prog_9_method_39_code 252 = .ok (.getfield 66, 3) := by decide +kernel
theorem dd_Md_keep_255 : decode prog_9_method_39_code 255 = .ok (.iload_n 2, 1) := by decide +kernel
theorem dd_Md_keep_256 : decode prog_9_method_39_code 256 = .ok (.baload, 1) := by decide +kernel
theorem dd_Md_keep_257 : decode prog_9_method_39_code 257 = .ok (.ifCond .eq 7, 3) := by decide +kernel
theorem dd_Md_keep_260 : decode prog_9_method_39_code 260 = .ok (.iconst 1, 1) := by decide +kernel
theorem dd_Md_keep_261 : decode prog_9_method_39_code 261 = .ok (.goto 4, 3) := by decide +kernel
theorem dd_Md_keep_264 : decode prog_9_method_39_code 264 = .ok (.iconst 0, 1) := by decide +kernel
theorem dd_Md_keep_265 : decode prog_9_method_39_code 265 = .ok (.iastore, 1) := by decide +kernel
theorem dd_Md_keep_266 : decode prog_9_method_39_code 266 = .ok (.iconst 0, 1) := by decide +kernel
theorem dd_Md_keep_267 : decode prog_9_method_39_code 267 = .ok (.istore 7, 2) := by decide +kernel
theorem dd_Md_keep_269 : decode prog_9_method_39_code 269 = .ok (.iload 7, 2) := by decide +kernel
theorem dd_Md_keep_271 : decode prog_9_method_39_code 271 = .ok (.bipush 49, 2) := by decide +kernel
theorem dd_Md_keep_273 : decode prog_9_method_39_code 273 = .ok (.if_icmp .ge 33, 3) := by decide +kernel
theorem dd_Md_keep_276 : decode prog_9_method_39_code 276 = .ok (.aload_n 0, 1) := by decide +kernel
theorem dd_Md_keep_277 : decode prog_9_method_39_code 277 = .ok (.getfield 102, 3) := by decide +kernel
theorem dd_Md_keep_280 : decode prog_9_method_39_code 280 = .ok (.bipush 49, 2) := by decide +kernel
theorem dd_Md_keep_282 : decode prog_9_method_39_code 282 = .ok (.iload_n 1, 1) := by decide +kernel
theorem dd_Md_keep_283 : decode prog_9_method_39_code 283 = .ok (.imul, 1) := by decide +kernel
theorem dd_Md_keep_284 : decode prog_9_method_39_code 284 = .ok (.iload 7, 2) := by decide +kernel
theorem dd_Md_keep_286 : decode prog_9_method_39_code 286 = .ok (.iadd, 1) := by decide +kernel
theorem dd_Md_keep_287 : decode prog_9_method_39_code 287 = .ok (.aload_n 0, 1) := by decide +kernel
theorem dd_Md_keep_288 : decode prog_9_method_39_code 288 = .ok (.getfield 93, 3) := by decide +kernel
theorem dd_Md_keep_291 : decode prog_9_method_39_code 291 = .ok (.bipush 49, 2) := by decide +kernel
theorem dd_Md_keep_293 : decode prog_9_method_39_code 293 = .ok (.iload_n 2, 1) := by decide +kernel
theorem dd_Md_keep_294 : decode prog_9_method_39_code 294 = .ok (.imul, 1) := by decide +kernel
theorem dd_Md_keep_295 : decode prog_9_method_39_code 295 = .ok (.iload 7, 2) := by decide +kernel
theorem dd_Md_keep_297 : decode prog_9_method_39_code 297 = .ok (.iadd, 1) := by decide +kernel
theorem dd_Md_keep_298 : decode prog_9_method_39_code 298 = .ok (.iaload, 1) := by decide +kernel
theorem dd_Md_keep_299 : decode prog_9_method_39_code 299 = .ok (.iastore, 1) := by decide +kernel
theorem dd_Md_keep_300 : decode prog_9_method_39_code 300 = .ok (.iinc 7 1, 3) := by decide +kernel
theorem dd_Md_keep_303 : decode prog_9_method_39_code 303 = .ok (.goto (-34), 3) := by decide +kernel
theorem dd_Md_keep_306 : decode prog_9_method_39_code 306 = .ok (.aload_n 0, 1) := by decide +kernel
theorem dd_Md_keep_307 : decode prog_9_method_39_code 307 = .ok (.iload_n 1, 1) := by decide +kernel
theorem dd_Md_keep_308 : decode prog_9_method_39_code 308 = .ok (.iload_n 2, 1) := by decide +kernel
theorem dd_Md_keep_309 : decode prog_9_method_39_code 309 = .ok (.invokevirtual 191, 3) := by decide +kernel
theorem dd_Md_keep_312 : decode prog_9_method_39_code 312 = .ok (.return_, 1) := by decide +kernel
theorem dd_Md_due_0 : decode prog_9_method_40_code 0 = .ok (.iload_n 1, 1) := by decide +kernel
theorem dd_Md_due_1 : decode prog_9_method_40_code 1 = .ok (.iconst 4, 1) := by decide +kernel
theorem dd_Md_due_2 : decode prog_9_method_40_code 2 = .ok (.idiv, 1) := by decide +kernel
theorem dd_Md_due_3 : decode prog_9_method_40_code 3 = .ok (.istore_n 2, 1) := by decide +kernel
theorem dd_Md_due_4 : decode prog_9_method_40_code 4 = .ok (.iload_n 1, 1) := by decide +kernel
theorem dd_Md_due_5 : decode prog_9_method_40_code 5 = .ok (.iconst 4, 1) := by decide +kernel
theorem dd_Md_due_6 : decode prog_9_method_40_code 6 = .ok (.irem, 1) := by decide +kernel
theorem dd_Md_due_7 : decode prog_9_method_40_code 7 = .ok (.istore_n 3, 1) := by decide +kernel
theorem dd_Md_due_8 : decode prog_9_method_40_code 8 = .ok (.iload_n 3, 1) := by decide +kernel
theorem dd_Md_due_9 : decode prog_9_method_40_code 9 = .ok (.ifCond .ne 24, 3) := by decide +kernel
theorem dd_Md_due_12 : decode prog_9_method_40_code 12 = .ok (.aload_n 0, 1) := by decide +kernel
theorem dd_Md_due_13 : decode prog_9_method_40_code 13 = .ok (.getfield 7, 3) := by decide +kernel
theorem dd_Md_due_16 : decode prog_9_method_40_code 16 = .ok (.iload_n 2, 1) := by decide +kernel
theorem dd_Md_due_17 : decode prog_9_method_40_code 17 = .ok (.iaload, 1) := by decide +kernel
theorem dd_Md_due_18 : decode prog_9_method_40_code 18 = .ok (.iconst 1, 1) := by decide +kernel
theorem dd_Md_due_19 : decode prog_9_method_40_code 19 = .ok (.if_icmp .ne 12, 3) := by decide +kernel
theorem dd_Md_due_22 : decode prog_9_method_40_code 22 = .ok (.aload_n 0, 1) := by decide +kernel
theorem dd_Md_due_23 : decode prog_9_method_40_code 23 = .ok (.getfield 24, 3) := by decide +kernel
theorem dd_Md_due_26 : decode prog_9_method_40_code 26 = .ok (.iload_n 2, 1) := by decide +kernel
theorem dd_Md_due_27 : decode prog_9_method_40_code 27 = .ok (.iaload, 1) := by decide +kernel
theorem dd_Md_due_28 : decode prog_9_method_40_code 28 = .ok (.goto 4, 3) := by decide +kernel
theorem dd_Md_due_31 : decode prog_9_method_40_code 31 = .ok (.iconst (-1), 1) := by decide +kernel
theorem dd_Md_due_32 : decode prog_9_method_40_code 32 = .ok (.ireturn, 1) := by decide +kernel
theorem dd_Md_due_33 : decode prog_9_method_40_code 33 = .ok (.iload_n 3, 1) := by decide +kernel
theorem dd_Md_due_34 : decode prog_9_method_40_code 34 = .ok (.iconst 1, 1) := by decide +kernel
theorem dd_Md_due_35 : decode prog_9_method_40_code 35 = .ok (.if_icmp .ne 23, 3) := by decide +kernel
theorem dd_Md_due_38 : decode prog_9_method_40_code 38 = .ok (.aload_n 0, 1) := by decide +kernel
theorem dd_Md_due_39 : decode prog_9_method_40_code 39 = .ok (.getfield 39, 3) := by decide +kernel
theorem dd_Md_due_42 : decode prog_9_method_40_code 42 = .ok (.iload_n 2, 1) := by decide +kernel
theorem dd_Md_due_43 : decode prog_9_method_40_code 43 = .ok (.iaload, 1) := by decide +kernel
theorem dd_Md_due_44 : decode prog_9_method_40_code 44 = .ok (.ifCond .le 12, 3) := by decide +kernel
theorem dd_Md_due_47 : decode prog_9_method_40_code 47 = .ok (.aload_n 0, 1) := by decide +kernel
theorem dd_Md_due_48 : decode prog_9_method_40_code 48 = .ok (.getfield 60, 3) := by decide +kernel
theorem dd_Md_due_51 : decode prog_9_method_40_code 51 = .ok (.iload_n 2, 1) := by decide +kernel
theorem dd_Md_due_52 : decode prog_9_method_40_code 52 = .ok (.iaload, 1) := by decide +kernel
theorem dd_Md_due_53 : decode prog_9_method_40_code 53 = .ok (.goto 4, 3) := by decide +kernel
theorem dd_Md_due_56 : decode prog_9_method_40_code 56 = .ok (.iconst (-1), 1) := by decide +kernel
theorem dd_Md_due_57 : decode prog_9_method_40_code 57 = .ok (.ireturn, 1) := by decide +kernel
theorem dd_Md_due_58 : decode prog_9_method_40_code 58 = .ok (.iload_n 3, 1) := by decide +kernel
theorem dd_Md_due_59 : decode prog_9_method_40_code 59 = .ok (.iconst 2, 1) := by decide +kernel
theorem dd_Md_due_60 : decode prog_9_method_40_code 60 = .ok (.isub, 1) := by decide +kernel
theorem dd_Md_due_61 : decode prog_9_method_40_code 61 = .ok (.aload_n 0, 1) := by decide +kernel
theorem dd_Md_due_62 : decode prog_9_method_40_code 62 = .ok (.getfield 63, 3) := by decide +kernel
theorem dd_Md_due_65 : decode prog_9_method_40_code 65 = .ok (.iload_n 2, 1) := by decide +kernel
theorem dd_Md_due_66 : decode prog_9_method_40_code 66 = .ok (.iaload, 1) := by decide +kernel
theorem dd_Md_due_67 : decode prog_9_method_40_code 67 = .ok (.if_icmp .ge 18, 3) := by decide +kernel
theorem dd_Md_due_70 : decode prog_9_method_40_code 70 = .ok (.aload_n 0, 1) := by decide +kernel
theorem dd_Md_due_71 : decode prog_9_method_40_code 71 = .ok (.getfield 90, 3) := by decide +kernel
theorem dd_Md_due_74 : decode prog_9_method_40_code 74 = .ok (.iconst 2, 1) := by decide +kernel
theorem dd_Md_due_75 : decode prog_9_method_40_code 75 = .ok (.iload_n 2, 1) := by decide +kernel
theorem dd_Md_due_76 : decode prog_9_method_40_code 76 = .ok (.imul, 1) := by decide +kernel
theorem dd_Md_due_77 : decode prog_9_method_40_code 77 = .ok (.iload_n 3, 1) := by decide +kernel
theorem dd_Md_due_78 : decode prog_9_method_40_code 78 = .ok (.iadd, 1) := by decide +kernel
theorem dd_Md_due_79 : decode prog_9_method_40_code 79 = .ok (.iconst 2, 1) := by decide +kernel
theorem dd_Md_due_80 : decode prog_9_method_40_code 80 = .ok (.isub, 1) := by decide +kernel
theorem dd_Md_due_81 : decode prog_9_method_40_code 81 = .ok (.iaload, 1) := by decide +kernel
theorem dd_Md_due_82 : decode prog_9_method_40_code 82 = .ok (.goto 4, 3) := by decide +kernel
theorem dd_Md_due_85 : decode prog_9_method_40_code 85 = .ok (.iconst (-1), 1) := by decide +kernel
theorem dd_Md_due_86 : decode prog_9_method_40_code 86 = .ok (.ireturn, 1) := by decide +kernel
theorem dd_Md_goOff_0 : decode prog_9_method_41_code 0 = .ok (.iload_n 1, 1) := by decide +kernel
theorem dd_Md_goOff_1 : decode prog_9_method_41_code 1 = .ok (.iconst 4, 1) := by decide +kernel
theorem dd_Md_goOff_2 : decode prog_9_method_41_code 2 = .ok (.idiv, 1) := by decide +kernel
theorem dd_Md_goOff_3 : decode prog_9_method_41_code 3 = .ok (.istore_n 2, 1) := by decide +kernel
theorem dd_Md_goOff_4 : decode prog_9_method_41_code 4 = .ok (.iload_n 1, 1) := by decide +kernel
theorem dd_Md_goOff_5 : decode prog_9_method_41_code 5 = .ok (.iconst 4, 1) := by decide +kernel
theorem dd_Md_goOff_6 : decode prog_9_method_41_code 6 = .ok (.irem, 1) := by decide +kernel
theorem dd_Md_goOff_7 : decode prog_9_method_41_code 7 = .ok (.istore_n 3, 1) := by decide +kernel
theorem dd_Md_goOff_8 : decode prog_9_method_41_code 8 = .ok (.iload_n 3, 1) := by decide +kernel
theorem dd_Md_goOff_9 : decode prog_9_method_41_code 9 = .ok (.ifCond .ne 13, 3) := by decide +kernel
theorem dd_Md_goOff_12 : decode prog_9_method_41_code 12 = .ok (.aload_n 0, 1) := by decide +kernel
theorem dd_Md_goOff_13 : decode prog_9_method_41_code 13 = .ok (.getfield 7, 3) := by decide +kernel
theorem dd_Md_goOff_16 : decode prog_9_method_41_code 16 = .ok (.iload_n 2, 1) := by decide +kernel
theorem dd_Md_goOff_17 : decode prog_9_method_41_code 17 = .ok (.iconst 2, 1) := by decide +kernel
theorem dd_Md_goOff_18 : decode prog_9_method_41_code 18 = .ok (.iastore, 1) := by decide +kernel
theorem dd_Md_goOff_19 : decode prog_9_method_41_code 19 = .ok (.goto 73, 3) := by decide +kernel
theorem dd_Md_goOff_22 : decode prog_9_method_41_code 22 = .ok (.iload_n 3, 1) := by decide +kernel
theorem dd_Md_goOff_23 : decode prog_9_method_41_code 23 = .ok (.iconst 1, 1) := by decide +kernel
theorem dd_Md_goOff_24 : decode prog_9_method_41_code 24 = .ok (.if_icmp .ne 11, 3) := by decide +kernel
theorem dd_Md_goOff_27 : decode prog_9_method_41_code 27 = .ok (.aload_n 0, 1) := by decide +kernel
theorem dd_Md_goOff_28 : decode prog_9_method_41_code 28 = .ok (.iload_n 2, 1) := by decide +kernel
theorem dd_Md_goOff_29 : decode prog_9_method_41_code 29 = .ok (.invokevirtual 210, 3) := by decide +kernel
theorem dd_Md_goOff_32 : decode prog_9_method_41_code 32 = .ok (.goto 60, 3) := by decide +kernel
theorem dd_Md_goOff_35 : decode prog_9_method_41_code 35 = .ok (.iconst 2, 1) := by decide +kernel
theorem dd_Md_goOff_36 : decode prog_9_method_41_code 36 = .ok (.iload_n 2, 1) := by decide +kernel
theorem dd_Md_goOff_37 : decode prog_9_method_41_code 37 = .ok (.imul, 1) := by decide +kernel
theorem dd_Md_goOff_38 : decode prog_9_method_41_code 38 = .ok (.iload_n 3, 1) := by decide +kernel
theorem dd_Md_goOff_39 : decode prog_9_method_41_code 39 = .ok (.iadd, 1) := by decide +kernel
theorem dd_Md_goOff_40 : decode prog_9_method_41_code 40 = .ok (.iconst 2, 1) := by decide +kernel
theorem dd_Md_goOff_41 : decode prog_9_method_41_code 41 = .ok (.isub, 1) := by decide +kernel
theorem dd_Md_goOff_42 : decode prog_9_method_41_code 42 = .ok (.istore 4, 2) := by decide +kernel
theorem dd_Md_goOff_44 : decode prog_9_method_41_code 44 = .ok (.aload_n 0, 1) := by decide +kernel
theorem dd_Md_goOff_45 : decode prog_9_method_41_code 45 = .ok (.getfield 66, 3) := by decide +kernel
theorem dd_Md_goOff_48 : decode prog_9_method_41_code 48 = .ok (.iload 4, 2) := by decide +kernel
theorem dd_Md_goOff_50 : decode prog_9_method_41_code 50 = .ok (.baload, 1) := by decide +kernel
theorem dd_Md_goOff_51 : decode prog_9_method_41_code 51 = .ok (.ifCond .eq 13, 3) := by decide +kernel
theorem dd_Md_goOff_54 : decode prog_9_method_41_code 54 = .ok (.aload_n 0, 1) := by decide +kernel
theorem dd_Md_goOff_55 : decode prog_9_method_41_code 55 = .ok (.iload_n 2, 1) := by decide +kernel
theorem dd_Md_goOff_56 : decode prog_9_method_41_code 56 = .ok (.iload 4, 2) := by decide +kernel
theorem dd_Md_goOff_58 : decode prog_9_method_41_code 58 = .ok (.invokevirtual 191, 3) := by decide +kernel
theorem dd_Md_goOff_61 : decode prog_9_method_41_code 61 = .ok (.goto 31, 3) := by decide +kernel
theorem dd_Md_goOff_64 : decode prog_9_method_41_code 64 = .ok (.aload_n 0, 1) := by decide +kernel
theorem dd_Md_goOff_65 : decode prog_9_method_41_code 65 = .ok (.getfield 87, 3) := by decide +kernel
theorem dd_Md_goOff_68 : decode prog_9_method_41_code 68 = .ok (.iload 4, 2) := by decide +kernel
theorem dd_Md_goOff_70 : decode prog_9_method_41_code 70 = .ok (.baload, 1) := by decide +kernel
theorem dd_Md_goOff_71 : decode prog_9_method_41_code 71 = .ok (.ifCond .eq 13, 3) := by decide +kernel
theorem dd_Md_goOff_74 : decode prog_9_method_41_code 74 = .ok (.aload_n 0, 1) := by decide +kernel
theorem dd_Md_goOff_75 : decode prog_9_method_41_code 75 = .ok (.iload_n 2, 1) := by decide +kernel
theorem dd_Md_goOff_76 : decode prog_9_method_41_code 76 = .ok (.iload 4, 2) := by decide +kernel
theorem dd_Md_goOff_78 : decode prog_9_method_41_code 78 = .ok (.invokevirtual 201, 3) := by decide +kernel
theorem dd_Md_goOff_81 : decode prog_9_method_41_code 81 = .ok (.goto 11, 3) := by decide +kernel
theorem dd_Md_goOff_84 : decode prog_9_method_41_code 84 = .ok (.aload_n 0, 1) := by decide +kernel
theorem dd_Md_goOff_85 : decode prog_9_method_41_code 85 = .ok (.iload_n 2, 1) := by decide +kernel
theorem dd_Md_goOff_86 : decode prog_9_method_41_code 86 = .ok (.iload 4, 2) := by decide +kernel
theorem dd_Md_goOff_88 : decode prog_9_method_41_code 88 = .ok (.iconst 3, 1) := by decide +kernel
theorem dd_Md_goOff_89 : decode prog_9_method_41_code 89 = .ok (.invokevirtual 207, 3) := by decide +kernel
theorem dd_Md_goOff_92 : decode prog_9_method_41_code 92 = .ok (.return_, 1) := by decide +kernel
theorem dd_Md_outgoingOff_0 : decode prog_9_method_42_code 0 = .ok (.aload_n 0, 1) := by decide +kernel
theorem dd_Md_outgoingOff_1 : decode prog_9_method_42_code 1 = .ok (.getfield 39, 3) := by decide +kernel
theorem dd_Md_outgoingOff_4 : decode prog_9_method_42_code 4 = .ok (.iload_n 1, 1) := by decide +kernel
theorem dd_Md_outgoingOff_5 : decode prog_9_method_42_code 5 = .ok (.iaload, 1) := by decide +kernel
theorem dd_Md_outgoingOff_6 : decode prog_9_method_42_code 6 = .ok (.iconst 1, 1) := by decide +kernel
theorem dd_Md_outgoingOff_7 : decode prog_9_method_42_code 7 = .ok (.if_icmp .le 29, 3) := by decide +kernel
theorem dd_Md_outgoingOff_10 : decode prog_9_method_42_code 10 = .ok (.aload_n 0, 1) := by decide +kernel
theorem dd_Md_outgoingOff_11 : decode prog_9_method_42_code 11 = .ok (.iload_n 1, 1) := by decide +kernel
theorem dd_Md_outgoingOff_12 : decode prog_9_method_42_code 12 = .ok (.aload_n 0, 1) := by decide +kernel
theorem dd_Md_outgoingOff_13 : decode prog_9_method_42_code 13 = .ok (.getfield 45, 3) := by decide +kernel
theorem dd_Md_outgoingOff_16 : decode prog_9_method_42_code 16 = .ok (.iload_n 1, 1) := by decide +kernel
theorem dd_Md_outgoingOff_17 : decode prog_9_method_42_code 17 = .ok (.iaload, 1) := by decide +kernel
theorem dd_Md_outgoingOff_18 : decode prog_9_method_42_code 18 = .ok (.iconst 3, 1) := by decide +kernel
theorem dd_Md_outgoingOff_19 : decode prog_9_method_42_code 19 = .ok (.aload_n 0, 1) := by decide +kernel
theorem dd_Md_outgoingOff_20 : decode prog_9_method_42_code 20 = .ok (.getfield 48, 3) := by decide +kernel
theorem dd_Md_outgoingOff_23 : decode prog_9_method_42_code 23 = .ok (.iload_n 1, 1) := by decide +kernel
theorem dd_Md_outgoingOff_24 : decode prog_9_method_42_code 24 = .ok (.iaload, 1) := by decide +kernel
theorem dd_Md_outgoingOff_25 : decode prog_9_method_42_code 25 = .ok (.invokevirtual 197, 3) := by decide +kernel
theorem dd_Md_outgoingOff_28 : decode prog_9_method_42_code 28 = .ok (.aload_n 0, 1) := by decide +kernel
theorem dd_Md_outgoingOff_29 : decode prog_9_method_42_code 29 = .ok (.iload_n 1, 1) := by decide +kernel
theorem dd_Md_outgoingOff_30 : decode prog_9_method_42_code 30 = .ok (.bipush 11, 2) := by decide +kernel
theorem dd_Md_outgoingOff_32 : decode prog_9_method_42_code 32 = .ok (.invokevirtual 187, 3) := by decide +kernel
theorem dd_Md_outgoingOff_35 : decode prog_9_method_42_code 35 = .ok (.return_, 1) := by decide +kernel
theorem dd_Md_outgoingOff_36 : decode prog_9_method_42_code 36 = .ok (.aload_n 0, 1) := by decide +kernel
theorem dd_Md_outgoingOff_37 : decode prog_9_method_42_code 37 = .ok (.iload_n 1, 1) := by decide +kernel
theorem dd_Md_outgoingOff_38 : decode prog_9_method_42_code 38 = .ok (.aload_n 0, 1) := by decide +kernel
theorem dd_Md_outgoingOff_39 : decode prog_9_method_42_code 39 = .ok (.getfield 57, 3) := by decide +kernel
theorem dd_Md_outgoingOff_42 : decode prog_9_method_42_code 42 = .ok (.iload_n 1, 1) := by decide +kernel
theorem dd_Md_outgoingOff_43 : decode prog_9_method_42_code 43 = .ok (.iaload, 1) := by decide +kernel
theorem dd_Md_outgoingOff_44 : decode prog_9_method_42_code 44 = .ok (.invokevirtual 194, 3) := by decide +kernel
theorem dd_Md_outgoingOff_47 : decode prog_9_method_42_code 47 = .ok (.aload_n 0, 1) := by decide +kernel
theorem dd_Md_outgoingOff_48 : decode prog_9_method_42_code 48 = .ok (.getfield 57, 3) := by decide +kernel
theorem dd_Md_outgoingOff_51 : decode prog_9_method_42_code 51 = .ok (.iload_n 1, 1) := by decide +kernel
theorem dd_Md_outgoingOff_52 : decode prog_9_method_42_code 52 = .ok (.iaload, 1) := by decide +kernel
theorem dd_Md_outgoingOff_53 : decode prog_9_method_42_code 53 = .ok (.aload_n 0, 1) := by decide +kernel
theorem dd_Md_outgoingOff_54 : decode prog_9_method_42_code 54 = .ok (.getfield 51, 3) := by decide +kernel
theorem dd_Md_outgoingOff_57 : decode prog_9_method_42_code 57 = .ok (.iload_n 1, 1) := by decide +kernel
theorem dd_Md_outgoingOff_58 : decode prog_9_method_42_code 58 = .ok (.iaload, 1) := by decide +kernel
theorem dd_Md_outgoingOff_59 : decode prog_9_method_42_code 59 = .ok (.invokestatic 170, 3) := by decide +kernel
theorem dd_Md_outgoingOff_62 : decode prog_9_method_42_code 62 = .ok (.if_icmp .ne 13, 3) := by decide +kernel
theorem dd_Md_outgoingOff_65 : decode prog_9_method_42_code 65 = .ok (.aload_n 0, 1) := by decide +kernel
theorem dd_Md_outgoingOff_66 : decode prog_9_method_42_code 66 = .ok (.iload_n 1, 1) := by decide +kernel
theorem dd_Md_outgoingOff_67 : decode prog_9_method_42_code 67 = .ok (.bipush 10, 2) := by decide +kernel
theorem dd_Md_outgoingOff_69 : decode prog_9_method_42_code 69 = .ok (.invokevirtual 187, 3) := by decide +kernel
theorem dd_Md_outgoingOff_72 : decode prog_9_method_42_code 72 = .ok (.goto 26, 3) := by decide +kernel
theorem dd_Md_outgoingOff_75 : decode prog_9_method_42_code 75 = .ok (.aload_n 0, 1) := by decide +kernel
theorem dd_Md_outgoingOff_76 : decode prog_9_method_42_code 76 = .ok (.getfield 57, 3) := by decide +kernel
theorem dd_Md_outgoingOff_79 : decode prog_9_method_42_code 79 = .ok (.iload_n 1, 1) := by decide +kernel
theorem dd_Md_outgoingOff_80 : decode prog_9_method_42_code 80 = .ok (.dup2, 1) := by decide +kernel
theorem dd_Md_outgoingOff_81 : decode prog_9_method_42_code 81 = .ok (.iaload, 1) := by decide +kernel
theorem dd_Md_outgoingOff_82 : decode prog_9_method_42_code 82 = .ok (.iconst 1, 1) := by decide +kernel
theorem dd_Md_outgoingOff_83 : decode prog_9_method_42_code 83 = .ok (.iadd, 1) := by decide +kernel
theorem dd_Md_outgoingOff_84 : decode prog_9_method_42_code 84 = .ok (.iastore, 1) := by decide +kernel
theorem dd_Md_outgoingOff_85 : decode prog_9_method_42_code 85 = .ok (.aload_n 0, 1) := by decide +kernel
theorem dd_Md_outgoingOff_86 : decode prog_9_method_42_code 86 = .ok (.getfield 60, 3) := by decide +kernel
theorem dd_Md_outgoingOff_89 : decode prog_9_method_42_code 89 = .ok (.iload_n 1, 1) := by decide +kernel
theorem dd_Md_outgoingOff_90 : decode prog_9_method_42_code 90 = .ok (.aload_n 0, 1) := by decide +kernel
theorem dd_Md_outgoingOff_91 : decode prog_9_method_42_code 91 = .ok (.getfield 153, 3) := by decide +kernel
theorem dd_Md_outgoingOff_94 : decode prog_9_method_42_code 94 = .ok (.bipush 50, 2) := by decide +kernel
theorem dd_Md_outgoingOff_96 : decode prog_9_method_42_code 96 = .ok (.iadd, 1) := by decide +kernel
theorem dd_Md_outgoingOff_97 : decode prog_9_method_42_code 97 = .ok (.iastore, 1) := by decide +kernel
theorem dd_Md_outgoingOff_98 : decode prog_9_method_42_code 98 = .ok (.return_, 1) := by decide +kernel
theorem dd_Md_tick_0 : decode prog_9_method_43_code 0 = .ok (.iload_n 1, 1) := by decide +kernel
theorem dd_Md_tick_1 : decode prog_9_method_43_code 1 = .ok (.iconst 1, 1) := by decide +kernel
theorem dd_Md_tick_2 : decode prog_9_method_43_code 2 = .ok (.if_icmp .lt 10, 3) := by decide +kernel
theorem dd_Md_tick_5 : decode prog_9_method_43_code 5 = .ok (.iload_n 1, 1) := by decide +kernel
theorem dd_Md_tick_6 : decode prog_9_method_43_code 6 = .ok (.sipush 2000, 3) := by decide +kernel
theorem dd_Md_tick_9 : decode prog_9_method_43_code 9 = .ok (.if_icmp .le 5, 3) := by decide +kernel
theorem dd_Md_tick_12 : decode prog_9_method_43_code 12 = .ok (.iconst (-1), 1) := by decide +kernel
theorem dd_Md_tick_13 : decode prog_9_method_43_code 13 = .ok (.ireturn, 1) := by decide +kernel
theorem dd_Md_tick_14 : decode prog_9_method_43_code 14 = .ok (.aload_n 0, 1) := by decide +kernel
theorem dd_Md_tick_15 : decode prog_9_method_43_code 15 = .ok (.getfield 153, 3) := by decide +kernel
theorem dd_Md_tick_18 : decode prog_9_method_43_code 18 = .ok (.iload_n 1, 1) := by decide +kernel
theorem dd_Md_tick_19 : decode prog_9_method_43_code 19 = .ok (.iadd, 1) := by decide +kernel
theorem dd_Md_tick_20 : decode prog_9_method_43_code 20 = .ok (.istore_n 2, 1) := by decide +kernel
theorem dd_Md_tick_21 : decode prog_9_method_43_code 21 = .ok (.iconst 0, 1) := by decide +kernel
theorem dd_Md_tick_22 : decode prog_9_method_43_code 22 = .ok (.istore_n 3, 1) := by decide +kernel
theorem dd_Md_tick_23 : decode prog_9_method_43_code 23 = .ok (.iconst 0, 1) := by decide +kernel
theorem dd_Md_tick_24 : decode prog_9_method_43_code 24 = .ok (.istore 4, 2) := by decide +kernel
theorem dd_Md_tick_26 : decode prog_9_method_43_code 26 = .ok (.iload 4, 2) := by decide +kernel
theorem dd_Md_tick_28 : decode prog_9_method_43_code 28 = .ok (.ifCond .lt 92, 3) := by decide +kernel
theorem dd_Md_tick_31 : decode prog_9_method_43_code 31 = .ok (.iconst (-1), 1) := by decide +kernel
theorem dd_Md_tick_32 : decode prog_9_method_43_code 32 = .ok (.istore 4, 2) := by decide +kernel
theorem dd_Md_tick_34 : decode prog_9_method_43_code 34 = .ok (.iconst 0, 1) := by decide +kernel
theorem dd_Md_tick_35 : decode prog_9_method_43_code 35 = .ok (.istore 5, 2) := by decide +kernel
theorem dd_Md_tick_37 : decode prog_9_method_43_code 37 = .ok (.iload 5, 2) := by decide +kernel
theorem dd_Md_tick_39 : decode prog_9_method_43_code 39 = .ok (.bipush 20, 2) := by decide +kernel
theorem dd_Md_tick_41 : decode prog_9_method_43_code 41 = .ok (.if_icmp .ge 52, 3) := by decide +kernel
theorem dd_Md_tick_44 : decode prog_9_method_43_code 44 = .ok (.aload_n 0, 1) := by decide +kernel
theorem dd_Md_tick_45 : decode prog_9_method_43_code 45 = .ok (.iload 5, 2) := by decide +kernel
theorem dd_Md_tick_47 : decode prog_9_method_43_code 47 = .ok (.invokevirtual 213, 3) := by decide +kernel
theorem dd_Md_tick_50 : decode prog_9_method_43_code 50 = .ok (.ifCond .lt 37, 3) := by decide +kernel
theorem dd_Md_tick_53 : decode prog_9_method_43_code 53 = .ok (.aload_n 0, 1) := by decide +kernel
theorem dd_Md_tick_54 : decode prog_9_method_43_code 54 = .ok (.iload 5, 2) := by decide +kernel
theorem dd_Md_tick_56 : decode prog_9_method_43_code 56 = .ok (.invokevirtual 213, 3) := by decide +kernel
theorem dd_Md_tick_59 : decode prog_9_method_43_code 59 = .ok (.iload_n 2, 1) := by decide +kernel
theorem dd_Md_tick_60 : decode prog_9_method_43_code 60 = .ok (.if_icmp .gt 27, 3) := by decide +kernel
theorem dd_Md_tick_63 : decode prog_9_method_43_code 63 = .ok (.iload 4, 2) := by decide +kernel
theorem dd_Md_tick_65 : decode prog_9_method_43_code 65 = .ok (.ifCond .lt 18, 3) := by decide +kernel
theorem dd_Md_tick_68 : decode prog_9_method_43_code 68 = .ok (.aload_n 0, 1) := by decide +kernel
theorem dd_Md_tick_69 : decode prog_9_method_43_code 69 = .ok (.iload 5, 2) := by decide +kernel
theorem dd_Md_tick_71 : decode prog_9_method_43_code 71 = .ok (.invokevirtual 213, 3) := by decide +kernel
theorem dd_Md_tick_74 : decode prog_9_method_43_code 74 = .ok (.aload_n 0, 1) := by decide +kernel
theorem dd_Md_tick_75 : decode prog_9_method_43_code 75 = .ok (.iload 4, 2) := by decide +kernel
theorem dd_Md_tick_77 : decode prog_9_method_43_code 77 = .ok (.invokevirtual 213, 3) := by decide +kernel
theorem dd_Md_tick_80 : decode prog_9_method_43_code 80 = .ok (.if_icmp .ge 7, 3) := by decide +kernel
theorem dd_Md_tick_83 : decode prog_9_method_43_code 83 = .ok (.iload 5, 2) := by decide +kernel
theorem dd_Md_tick_85 : decode prog_9_method_43_code 85 = .ok (.istore 4, 2) := by decide +kernel
theorem dd_Md_tick_87 : decode prog_9_method_43_code 87 = .ok (.iinc 5 1, 3) := by decide +kernel
theorem dd_Md_tick_90 : decode prog_9_method_43_code 90 = .ok (.goto (-53), 3) := by decide +kernel
theorem dd_Md_tick_93 : decode prog_9_method_43_code 93 = .ok (.iload 4, 2) := by decide +kernel
theorem dd_Md_tick_95 : decode prog_9_method_43_code 95 = .ok (.ifCond .lt (-69), 3) := by decide +kernel
theorem dd_Md_tick_98 : decode prog_9_method_43_code 98 = .ok (.aload_n 0, 1) := by decide +kernel
theorem dd_Md_tick_99 : decode prog_9_method_43_code 99 = .ok (.aload_n 0, 1) := by decide +kernel
theorem dd_Md_tick_100 : decode prog_9_method_43_code 100 = .ok (.iload 4, 2) := by decide +kernel
theorem dd_Md_tick_102 : decode prog_9_method_43_code 102 = .ok (.invokevirtual 213, 3) := by decide +kernel
theorem dd_Md_tick_105 : decode prog_9_method_43_code 105 = .ok (.putfield 153, 3) := by decide +kernel
theorem dd_Md_tick_108 : decode prog_9_method_43_code 108 = .ok (.aload_n 0, 1) := by decide +kernel
theorem dd_Md_tick_109 : decode prog_9_method_43_code 109 = .ok (.iload 4, 2) := by decide +kernel
theorem dd_Md_tick_111 : decode prog_9_method_43_code 111 = .ok (.invokevirtual 216, 3) := by decide +kernel
theorem dd_Md_tick_114 : decode prog_9_method_43_code 114 = .ok (.iinc 3 1, 3) := by decide +kernel
theorem dd_Md_tick_117 : decode prog_9_method_43_code 117 = .ok (.goto (-91), 3) := by decide +kernel
theorem dd_Md_tick_120 : decode prog_9_method_43_code 120 = .ok (.aload_n 0, 1) := by decide +kernel
theorem dd_Md_tick_121 : decode prog_9_method_43_code 121 = .ok (.iload_n 2, 1) := by decide +kernel
theorem dd_Md_tick_122 : decode prog_9_method_43_code 122 = .ok (.putfield 153, 3) := by decide +kernel
theorem dd_Md_tick_125 : decode prog_9_method_43_code 125 = .ok (.iload_n 3, 1) := by decide +kernel
theorem dd_Md_tick_126 : decode prog_9_method_43_code 126 = .ok (.ireturn, 1) := by decide +kernel
theorem dd_Md_outgoing_0 : decode prog_9_method_44_code 0 = .ok (.aload_n 0, 1) := by decide +kernel
theorem dd_Md_outgoing_1 : decode prog_9_method_44_code 1 = .ok (.iload_n 1, 1) := by decide +kernel
theorem dd_Md_outgoing_2 : decode prog_9_method_44_code 2 = .ok (.invokevirtual 156, 3) := by decide +kernel
theorem dd_Md_outgoing_5 : decode prog_9_method_44_code 5 = .ok (.ifCond .ne 7, 3) := by decide +kernel
theorem dd_Md_outgoing_8 : decode prog_9_method_44_code 8 = .ok (.iconst (-1), 1) := by decide +kernel
theorem dd_Md_outgoing_9 : decode prog_9_method_44_code 9 = .ok (.goto 27, 3) := by decide +kernel
theorem dd_Md_outgoing_12 : decode prog_9_method_44_code 12 = .ok (.aload_n 0, 1) := by decide +kernel
theorem dd_Md_outgoing_13 : decode prog_9_method_44_code 13 = .ok (.getfield 39, 3) := by decide +kernel
theorem dd_Md_outgoing_16 : decode prog_9_method_44_code 16 = .ok (.iload_n 1, 1) := by decide +kernel
theorem dd_Md_outgoing_17 : decode prog_9_method_44_code 17 = .ok (.iaload, 1) := by decide +kernel
theorem dd_Md_outgoing_18 : decode prog_9_method_44_code 18 = .ok (.ifCond .le 12, 3) := by decide +kernel
theorem dd_Md_outgoing_21 : decode prog_9_method_44_code 21 = .ok (.aload_n 0, 1) := by decide +kernel
theorem dd_Md_outgoing_22 : decode prog_9_method_44_code 22 = .ok (.getfield 39, 3) := by decide +kernel
theorem dd_Md_outgoing_25 : decode prog_9_method_44_code 25 = .ok (.iload_n 1, 1) := by decide +kernel
theorem dd_Md_outgoing_26 : decode prog_9_method_44_code 26 = .ok (.iaload, 1) := by decide +kernel
theorem dd_Md_outgoing_27 : decode prog_9_method_44_code 27 = .ok (.goto 9, 3) := by decide +kernel
theorem dd_Md_outgoing_30 : decode prog_9_method_44_code 30 = .ok (.aload_n 0, 1) := by decide +kernel
theorem dd_Md_outgoing_31 : decode prog_9_method_44_code 31 = .ok (.getfield 42, 3) := by decide +kernel
theorem dd_Md_outgoing_34 : decode prog_9_method_44_code 34 = .ok (.iload_n 1, 1) := by decide +kernel
theorem dd_Md_outgoing_35 : decode prog_9_method_44_code 35 = .ok (.iaload, 1) := by decide +kernel
theorem dd_Md_outgoing_36 : decode prog_9_method_44_code 36 = .ok (.ireturn, 1) := by decide +kernel
theorem dd_Md_incoming_0 : decode prog_9_method_45_code 0 = .ok (.aload_n 0, 1) := by decide +kernel
theorem dd_Md_incoming_1 : decode prog_9_method_45_code 1 = .ok (.iload_n 1, 1) := by decide +kernel
theorem dd_Md_incoming_2 : decode prog_9_method_45_code 2 = .ok (.invokevirtual 156, 3) := by decide +kernel
theorem dd_Md_incoming_5 : decode prog_9_method_45_code 5 = .ok (.ifCond .eq 12, 3) := by decide +kernel
theorem dd_Md_incoming_8 : decode prog_9_method_45_code 8 = .ok (.aload_n 0, 1) := by decide +kernel
theorem dd_Md_incoming_9 : decode prog_9_method_45_code 9 = .ok (.getfield 63, 3) := by decide +kernel
theorem dd_Md_incoming_12 : decode prog_9_method_45_code 12 = .ok (.iload_n 1, 1) := by decide +kernel
theorem dd_Md_incoming_13 : decode prog_9_method_45_code 13 = .ok (.iaload, 1) := by decide +kernel
theorem dd_Md_incoming_14 : decode prog_9_method_45_code 14 = .ok (.goto 4, 3) := by decide +kernel
theorem dd_Md_incoming_17 : decode prog_9_method_45_code 17 = .ok (.iconst (-1), 1) := by decide +kernel
theorem dd_Md_incoming_18 : decode prog_9_method_45_code 18 = .ok (.ireturn, 1) := by decide +kernel
theorem dd_Md_delivered_0 : decode prog_9_method_46_code 0 = .ok (.aload_n 0, 1) := by decide +kernel
theorem dd_Md_delivered_1 : decode prog_9_method_46_code 1 = .ok (.iload_n 1, 1) := by decide +kernel
theorem dd_Md_delivered_2 : decode prog_9_method_46_code 2 = .ok (.invokevirtual 156, 3) := by decide +kernel
theorem dd_Md_delivered_5 : decode prog_9_method_46_code 5 = .ok (.ifCond .eq 12, 3) := by decide +kernel
theorem dd_Md_delivered_8 : decode prog_9_method_46_code 8 = .ok (.aload_n 0, 1) := by decide +kernel
theorem dd_Md_delivered_9 : decode prog_9_method_46_code 9 = .ok (.getfield 96, 3) := by decide +kernel
theorem dd_Md_delivered_12 : decode prog_9_method_46_code 12 = .ok (.iload_n 1, 1) := by decide +kernel
theorem dd_Md_delivered_13 : decode prog_9_method_46_code 13 = .ok (.iaload, 1) := by decide +kernel
theorem dd_Md_delivered_14 : decode prog_9_method_46_code 14 = .ok (.goto 4, 3) := by decide +kernel
theorem dd_Md_delivered_17 : decode prog_9_method_46_code 17 = .ok (.iconst (-1), 1) := by decide +kernel
theorem dd_Md_delivered_18 : decode prog_9_method_46_code 18 = .ok (.ireturn, 1) := by decide +kernel
theorem dd_Md_message_0 : decode prog_9_method_47_code 0 = .ok (.aload_n 0, 1) := by decide +kernel
theorem dd_Md_message_1 : decode prog_9_method_47_code 1 = .ok (.iload_n 1, 1) := by decide +kernel
theorem dd_Md_message_2 : decode prog_9_method_47_code 2 = .ok (.invokevirtual 156, 3) := by decide +kernel
theorem dd_Md_message_5 : decode prog_9_method_47_code 5 = .ok (.ifCond .eq 34, 3) := by decide +kernel
theorem dd_Md_message_8 : decode prog_9_method_47_code 8 = .ok (.aload_n 0, 1) := by decide +kernel
theorem dd_Md_message_9 : decode prog_9_method_47_code 9 = .ok (.getfield 96, 3) := by decide +kernel
theorem dd_Md_message_12 : decode prog_9_method_47_code 12 = .ok (.iload_n 1, 1) := by decide +kernel
theorem dd_Md_message_13 : decode prog_9_method_47_code 13 = .ok (.iaload, 1) := by decide +kernel
theorem dd_Md_message_14 : decode prog_9_method_47_code 14 = .ok (.ifCond .le 25, 3) := by decide +kernel
theorem dd_Md_message_17 : decode prog_9_method_47_code 17 = .ok (.iload_n 2, 1) := by decide +kernel
theorem dd_Md_message_18 : decode prog_9_method_47_code 18 = .ok (.ifCond .lt 21, 3) := by decide +kernel
theorem dd_Md_message_21 : decode prog_9_method_47_code 21 = .ok (.iload_n 2, 1) := by decide +kernel
theorem dd_Md_message_22 : decode prog_9_method_47_code 22 = .ok (.iconst 3, 1) := by decide +kernel
theorem dd_Md_message_23 : decode prog_9_method_47_code 23 = .ok (.if_icmp .gt 16, 3) := by decide +kernel
theorem dd_Md_message_26 : decode prog_9_method_47_code 26 = .ok (.aload_n 0, 1) := by decide +kernel
theorem dd_Md_message_27 : decode prog_9_method_47_code 27 = .ok (.getfield 99, 3) := by decide +kernel
theorem dd_Md_message_30 : decode prog_9_method_47_code 30 = .ok (.iconst 4, 1) := by decide +kernel
theorem dd_Md_message_31 : decode prog_9_method_47_code 31 = .ok (.iload_n 1, 1) := by decide +kernel
theorem dd_Md_message_32 : decode prog_9_method_47_code 32 = .ok (.imul, 1) := by decide +kernel
theorem dd_Md_message_33 : decode prog_9_method_47_code 33 = .ok (.iload_n 2, 1) := by decide +kernel
theorem dd_Md_message_34 : decode prog_9_method_47_code 34 = .ok (.iadd, 1) := by decide +kernel
theorem dd_Md_message_35 : decode prog_9_method_47_code 35 = .ok (.iaload, 1) := by decide +kernel
theorem dd_Md_message_36 : decode prog_9_method_47_code 36 = .ok (.goto 4, 3) := by decide +kernel
theorem dd_Md_message_39 : decode prog_9_method_47_code 39 = .ok (.iconst (-1), 1) := by decide +kernel
theorem dd_Md_message_40 : decode prog_9_method_47_code 40 = .ok (.ireturn, 1) := by decide +kernel
theorem dd_Md_byteOf_0 : decode prog_9_method_48_code 0 = .ok (.aload_n 0, 1) := by decide +kernel
theorem dd_Md_byteOf_1 : decode prog_9_method_48_code 1 = .ok (.iload_n 1, 1) := by decide +kernel
theorem dd_Md_byteOf_2 : decode prog_9_method_48_code 2 = .ok (.invokevirtual 156, 3) := by decide +kernel
theorem dd_Md_byteOf_5 : decode prog_9_method_48_code 5 = .ok (.ifCond .eq 44, 3) := by decide +kernel
theorem dd_Md_byteOf_8 : decode prog_9_method_48_code 8 = .ok (.aload_n 0, 1) := by decide +kernel
theorem dd_Md_byteOf_9 : decode prog_9_method_48_code 9 = .ok (.getfield 96, 3) := by decide +kernel
theorem dd_Md_byteOf_12 : decode prog_9_method_48_code 12 = .ok (.iload_n 1, 1) := by decide +kernel
theorem dd_Md_byteOf_13 : decode prog_9_method_48_code 13 = .ok (.iaload, 1) := by decide +kernel
theorem dd_Md_byteOf_14 : decode prog_9_method_48_code 14 = .ok (.ifCond .le 35, 3) := by decide +kernel
theorem dd_Md_byteOf_17 : decode prog_9_method_48_code 17 = .ok (.iload_n 2, 1) := by decide +kernel
theorem dd_Md_byteOf_18 : decode prog_9_method_48_code 18 = .ok (.ifCond .lt 31, 3) := by decide +kernel
theorem dd_Md_byteOf_21 : decode prog_9_method_48_code 21 = .ok (.iload_n 2, 1) := by decide +kernel
theorem dd_Md_byteOf_22 : decode prog_9_method_48_code 22 = .ok (.aload_n 0, 1) := by decide +kernel
theorem dd_Md_byteOf_23 : decode prog_9_method_48_code 23 = .ok (.getfield 99, 3) := by decide +kernel
theorem dd_Md_byteOf_26 : decode prog_9_method_48_code 26 = .ok (.iconst 4, 1) := by decide +kernel
theorem dd_Md_byteOf_27 : decode prog_9_method_48_code 27 = .ok (.iload_n 1, 1) := by decide +kernel
theorem dd_Md_byteOf_28 : decode prog_9_method_48_code 28 = .ok (.imul, 1) := by decide +kernel
theorem dd_Md_byteOf_29 : decode prog_9_method_48_code 29 = .ok (.iconst 2, 1) := by decide +kernel
theorem dd_Md_byteOf_30 : decode prog_9_method_48_code 30 = .ok (.iadd, 1) := by decide +kernel
theorem dd_Md_byteOf_31 : decode prog_9_method_48_code 31 = .ok (.iaload, 1) := by decide +kernel
theorem dd_Md_byteOf_32 : decode prog_9_method_48_code 32 = .ok (.if_icmp .ge 17, 3) := by decide +kernel
theorem dd_Md_byteOf_35 : decode prog_9_method_48_code 35 = .ok (.aload_n 0, 1) := by decide +kernel
theorem dd_Md_byteOf_36 : decode prog_9_method_48_code 36 = .ok (.getfield 102, 3) := by decide +kernel
theorem dd_Md_byteOf_39 : decode prog_9_method_48_code 39 = .ok (.bipush 49, 2) := by decide +kernel
theorem dd_Md_byteOf_41 : decode prog_9_method_48_code 41 = .ok (.iload_n 1, 1) := by decide +kernel
theorem dd_Md_byteOf_42 : decode prog_9_method_48_code 42 = .ok (.imul, 1) := by decide +kernel
theorem dd_Md_byteOf_43 : decode prog_9_method_48_code 43 = .ok (.iload_n 2, 1) := by decide +kernel
theorem dd_Md_byteOf_44 : decode prog_9_method_48_code 44 = .ok (.iadd, 1) := by decide +kernel
theorem dd_Md_byteOf_45 : decode prog_9_method_48_code 45 = .ok (.iaload, 1) := by decide +kernel
theorem dd_Md_byteOf_46 : decode prog_9_method_48_code 46 = .ok (.goto 4, 3) := by decide +kernel
theorem dd_Md_byteOf_49 : decode prog_9_method_48_code 49 = .ok (.iconst (-1), 1) := by decide +kernel
theorem dd_Md_byteOf_50 : decode prog_9_method_48_code 50 = .ok (.ireturn, 1) := by decide +kernel
