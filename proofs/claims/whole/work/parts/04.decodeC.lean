theorem dd_Md_init_0 : decode prog_9_method_1_code 0 = .ok (.aload_n 0, 1) := by decide +kernel
theorem dd_Md_init_1 : decode prog_9_method_1_code 1 = .ok (.invokespecial 1, 3) := by decide +kernel
theorem dd_Md_init_4 : decode prog_9_method_1_code 4 = .ok (.aload_n 0, 1) := by decide +kernel
theorem dd_Md_init_5 : decode prog_9_method_1_code 5 = .ok (.iconst 5, 1) := by decide +kernel
theorem dd_Md_init_6 : decode prog_9_method_1_code 6 = .ok (.newarray .int, 2) := by decide +kernel
theorem dd_Md_init_8 : decode prog_9_method_1_code 8 = .ok (.putfield 7, 3) := by decide +kernel
theorem dd_Md_init_11 : decode prog_9_method_1_code 11 = .ok (.aload_n 0, 1) := by decide +kernel
theorem dd_Md_init_12 : decode prog_9_method_1_code 12 = .ok (.iconst 5, 1) := by decide +kernel
theorem dd_Md_init_13 : decode prog_9_method_1_code 13 = .ok (.newarray .int, 2) := by decide +kernel
theorem dd_Md_init_15 : decode prog_9_method_1_code 15 = .ok (.putfield 13, 3) := by decide +kernel
theorem dd_Md_init_18 : decode prog_9_method_1_code 18 = .ok (.aload_n 0, 1) := by decide +kernel
theorem dd_Md_init_19 : decode prog_9_method_1_code 19 = .ok (.iconst 5, 1) := by decide +kernel
theorem dd_Md_init_20 : decode prog_9_method_1_code 20 = .ok (.newarray .long, 2) := by decide +kernel
theorem dd_Md_init_22 : decode prog_9_method_1_code 22 = .ok (.putfield 16, 3) := by decide +kernel
theorem dd_Md_init_25 : decode prog_9_method_1_code 25 = .ok (.aload_n 0, 1) := by decide +kernel
theorem dd_Md_init_26 : decode prog_9_method_1_code 26 = .ok (.iconst 5, 1) := by decide +kernel
theorem dd_Md_init_27 : decode prog_9_method_1_code 27 = .ok (.newarray .boolean, 2) := by decide +kernel
theorem dd_Md_init_29 : decode prog_9_method_1_code 29 = .ok (.putfield 20, 3) := by decide +kernel
theorem dd_Md_init_32 : decode prog_9_method_1_code 32 = .ok (.aload_n 0, 1) := by decide +kernel
theorem dd_Md_init_33 : decode prog_9_method_1_code 33 = .ok (.iconst 5, 1) := by decide +kernel
theorem dd_Md_init_34 : decode prog_9_method_1_code 34 = .ok (.newarray .int, 2) := by decide +kernel
theorem dd_Md_init_36 : decode prog_9_method_1_code 36 = .ok (.putfield 24, 3) := by decide +kernel
theorem dd_Md_init_39 : decode prog_9_method_1_code 39 = .ok (.aload_n 0, 1) := by decide +kernel
theorem dd_Md_init_40 : decode prog_9_method_1_code 40 = .ok (.bipush 25, 2) := by decide +kernel
theorem dd_Md_init_42 : decode prog_9_method_1_code 42 = .ok (.newarray .int, 2) := by decide +kernel
theorem dd_Md_init_44 : decode prog_9_method_1_code 44 = .ok (.putfield 27, 3) := by decide +kernel
theorem dd_Md_init_47 : decode prog_9_method_1_code 47 = .ok (.aload_n 0, 1) := by decide +kernel
theorem dd_Md_init_48 : decode prog_9_method_1_code 48 = .ok (.bipush 48, 2) := by decide +kernel
theorem dd_Md_init_50 : decode prog_9_method_1_code 50 = .ok (.newarray .int, 2) := by decide +kernel
theorem dd_Md_init_52 : decode prog_9_method_1_code 52 = .ok (.putfield 30, 3) := by decide +kernel
theorem dd_Md_init_55 : decode prog_9_method_1_code 55 = .ok (.aload_n 0, 1) := by decide +kernel
theorem dd_Md_init_56 : decode prog_9_method_1_code 56 = .ok (.bipush 48, 2) := by decide +kernel
theorem dd_Md_init_58 : decode prog_9_method_1_code 58 = .ok (.newarray .long, 2) := by decide +kernel
theorem dd_Md_init_60 : decode prog_9_method_1_code 60 = .ok (.putfield 33, 3) := by decide +kernel
theorem dd_Md_init_63 : decode prog_9_method_1_code 63 = .ok (.aload_n 0, 1) := by decide +kernel
theorem dd_Md_init_64 : decode prog_9_method_1_code 64 = .ok (.bipush 48, 2) := by decide +kernel
theorem dd_Md_init_66 : decode prog_9_method_1_code 66 = .ok (.newarray .int, 2) := by decide +kernel
theorem dd_Md_init_68 : decode prog_9_method_1_code 68 = .ok (.putfield 36, 3) := by decide +kernel
theorem dd_Md_init_71 : decode prog_9_method_1_code 71 = .ok (.aload_n 0, 1) := by decide +kernel
theorem dd_Md_init_72 : decode prog_9_method_1_code 72 = .ok (.iconst 5, 1) := by decide +kernel
theorem dd_Md_init_73 : decode prog_9_method_1_code 73 = .ok (.newarray .int, 2) := by decide +kernel
theorem dd_Md_init_75 : decode prog_9_method_1_code 75 = .ok (.putfield 39, 3) := by decide +kernel
theorem dd_Md_init_78 : decode prog_9_method_1_code 78 = .ok (.aload_n 0, 1) := by decide +kernel
theorem dd_Md_init_79 : decode prog_9_method_1_code 79 = .ok (.iconst 5, 1) := by decide +kernel
theorem dd_Md_init_80 : decode prog_9_method_1_code 80 = .ok (.newarray .int, 2) := by decide +kernel
theorem dd_Md_init_82 : decode prog_9_method_1_code 82 = .ok (.putfield 42, 3) := by decide +kernel
theorem dd_Md_init_85 : decode prog_9_method_1_code 85 = .ok (.aload_n 0, 1) := by decide +kernel
theorem dd_Md_init_86 : decode prog_9_method_1_code 86 = .ok (.iconst 5, 1) := by decide +kernel
theorem dd_Md_init_87 : decode prog_9_method_1_code 87 = .ok (.newarray .int, 2) := by decide +kernel
theorem dd_Md_init_89 : decode prog_9_method_1_code 89 = .ok (.putfield 45, 3) := by decide +kernel
theorem dd_Md_init_92 : decode prog_9_method_1_code 92 = .ok (.aload_n 0, 1) := by decide +kernel
theorem dd_Md_init_93 : decode prog_9_method_1_code 93 = .ok (.iconst 5, 1) := by decide +kernel
theorem dd_Md_init_94 : decode prog_9_method_1_code 94 = .ok (.newarray .int, 2) := by decide +kernel
theorem dd_Md_init_96 : decode prog_9_method_1_code 96 = .ok (.putfield 48, 3) := by decide +kernel
theorem dd_Md_init_99 : decode prog_9_method_1_code 99 = .ok (.aload_n 0, 1) := by decide +kernel
theorem dd_Md_init_100 : decode prog_9_method_1_code 100 = .ok (.iconst 5, 1) := by decide +kernel
theorem dd_Md_init_101 : decode prog_9_method_1_code 101 = .ok (.newarray .int, 2) := by decide +kernel
theorem dd_Md_init_103 : decode prog_9_method_1_code 103 = .ok (.putfield 51, 3) := by decide +kernel
theorem dd_Md_init_106 : decode prog_9_method_1_code 106 = .ok (.aload_n 0, 1) := by decide +kernel
theorem dd_Md_init_107 : decode prog_9_method_1_code 107 = .ok (.iconst 5, 1) := by decide +kernel
theorem dd_Md_init_108 : decode prog_9_method_1_code 108 = .ok (.newarray .long, 2) := by decide +kernel
theorem dd_Md_init_110 : decode prog_9_method_1_code 110 = .ok (.putfield 54, 3) := by decide +kernel
theorem dd_Md_init_113 : decode prog_9_method_1_code 113 = .ok (.aload_n 0, 1) := by decide +kernel
theorem dd_Md_init_114 : decode prog_9_method_1_code 114 = .ok (.iconst 5, 1) := by decide +kernel
theorem dd_Md_init_115 : decode prog_9_method_1_code 115 = .ok (.newarray .int, 2) := by decide +kernel
theorem dd_Md_init_117 : decode prog_9_method_1_code 117 = .ok (.putfield 57, 3) := by decide +kernel
theorem dd_Md_init_120 : decode prog_9_method_1_code 120 = .ok (.aload_n 0, 1) := by decide +kernel
theorem dd_Md_init_121 : decode prog_9_method_1_code 121 = .ok (.iconst 5, 1) := by decide +kernel
theorem dd_Md_init_122 : decode prog_9_method_1_code 122 = .ok (.newarray .int, 2) := by decide +kernel
theorem dd_Md_init_124 : decode prog_9_method_1_code 124 = .ok (.putfield 60, 3) := by decide +kernel
theorem dd_Md_init_127 : decode prog_9_method_1_code 127 = .ok (.aload_n 0, 1) := by decide +kernel
theorem dd_Md_init_128 : decode prog_9_method_1_code 128 = .ok (.iconst 5, 1) := by decide +kernel
theorem dd_Md_init_129 : decode prog_9_method_1_code 129 = .ok (.newarray .int, 2) := by decide +kernel
theorem dd_Md_init_131 : decode prog_9_method_1_code 131 = .ok (.putfield 63, 3) := by decide +kernel
theorem dd_Md_init_134 : decode prog_9_method_1_code 134 = .ok (.aload_n 0, 1) := by decide +kernel
theorem dd_Md_init_135 : decode prog_9_method_1_code 135 = .ok (.bipush 10, 2) := by decide +kernel
theorem dd_Md_init_137 : decode prog_9_method_1_code 137 = .ok (.newarray .boolean, 2) := by decide +kernel
theorem dd_Md_init_139 : decode prog_9_method_1_code 139 = .ok (.putfield 66, 3) := by decide +kernel
theorem dd_Md_init_142 : decode prog_9_method_1_code 142 = .ok (.aload_n 0, 1) := by decide +kernel
theorem dd_Md_init_143 : decode prog_9_method_1_code 143 = .ok (.bipush 10, 2) := by decide +kernel
theorem dd_Md_init_145 : decode prog_9_method_1_code 145 = .ok (.newarray .int, 2) := by decide +kernel
theorem dd_Md_init_147 : decode prog_9_method_1_code 147 = .ok (.putfield 69, 3) := by decide +kernel
theorem dd_Md_init_150 : decode prog_9_method_1_code 150 = .ok (.aload_n 0, 1) := by decide +kernel
theorem dd_Md_init_151 : decode prog_9_method_1_code 151 = .ok (.bipush 10, 2) := by decide +kernel
theorem dd_Md_init_153 : decode prog_9_method_1_code 153 = .ok (.newarray .int, 2) := by decide +kernel
theorem dd_Md_init_155 : decode prog_9_method_1_code 155 = .ok (.putfield 72, 3) := by decide +kernel
theorem dd_Md_init_158 : decode prog_9_method_1_code 158 = .ok (.aload_n 0, 1) := by decide +kernel
theorem dd_Md_init_159 : decode prog_9_method_1_code 159 = .ok (.bipush 10, 2) := by decide +kernel
theorem dd_Md_init_161 : decode prog_9_method_1_code 161 = .ok (.newarray .int, 2) := by decide +kernel
theorem dd_Md_init_163 : decode prog_9_method_1_code 163 = .ok (.putfield 75, 3) := by decide +kernel
theorem dd_Md_init_166 : decode prog_9_method_1_code 166 = .ok (.aload_n 0, 1) := by decide +kernel
theorem dd_Md_init_167 : decode prog_9_method_1_code 167 = .ok (.bipush 10, 2) := by decide +kernel
theorem dd_Md_init_169 : decode prog_9_method_1_code 169 = .ok (.newarray .int, 2) := by decide +kernel
theorem dd_Md_init_171 : decode prog_9_method_1_code 171 = .ok (.putfield 78, 3) := by decide +kernel
theorem dd_Md_init_174 : decode prog_9_method_1_code 174 = .ok (.aload_n 0, 1) := by decide +kernel
theorem dd_Md_init_175 : decode prog_9_method_1_code 175 = .ok (.bipush 10, 2) := by decide +kernel
theorem dd_Md_init_177 : decode prog_9_method_1_code 177 = .ok (.newarray .int, 2) := by decide +kernel
theorem dd_Md_init_179 : decode prog_9_method_1_code 179 = .ok (.putfield 81, 3) := by decide +kernel
theorem dd_Md_init_182 : decode prog_9_method_1_code 182 = .ok (.aload_n 0, 1) := by decide +kernel
theorem dd_Md_init_183 : decode prog_9_method_1_code 183 = .ok (.bipush 10, 2) := by decide +kernel
theorem dd_Md_init_185 : decode prog_9_method_1_code 185 = .ok (.newarray .int, 2) := by decide +kernel
theorem dd_Md_init_187 : decode prog_9_method_1_code 187 = .ok (.putfield 84, 3) := by decide +kernel
theorem dd_Md_init_190 : decode prog_9_method_1_code 190 = .ok (.aload_n 0, 1) := by decide +kernel
theorem dd_Md_init_191 : decode prog_9_method_1_code 191 = .ok (.bipush 10, 2) := by decide +kernel
theorem dd_Md_init_193 : decode prog_9_method_1_code 193 = .ok (.newarray .boolean, 2) := by decide +kernel
theorem dd_Md_init_195 : decode prog_9_method_1_code 195 = .ok (.putfield 87, 3) := by decide +kernel
theorem dd_Md_init_198 : decode prog_9_method_1_code 198 = .ok (.aload_n 0, 1) := by decide +kernel
theorem dd_Md_init_199 : decode prog_9_method_1_code 199 = .ok (.bipush 10, 2) := by decide +kernel
theorem dd_Md_init_201 : decode prog_9_method_1_code 201 = .ok (.newarray .int, 2) := by decide +kernel
theorem dd_Md_init_203 : decode prog_9_method_1_code 203 = .ok (.putfield 90, 3) := by decide +kernel
theorem dd_Md_init_206 : decode prog_9_method_1_code 206 = .ok (.aload_n 0, 1) := by decide +kernel
theorem dd_Md_init_207 : decode prog_9_method_1_code 207 = .ok (.sipush 490, 3) := by decide +kernel
theorem dd_Md_init_210 : decode prog_9_method_1_code 210 = .ok (.newarray .int, 2) := by decide +kernel
theorem dd_Md_init_212 : decode prog_9_method_1_code 212 = .ok (.putfield 93, 3) := by decide +kernel
theorem dd_Md_init_215 : decode prog_9_method_1_code 215 = .ok (.aload_n 0, 1) := by decide +kernel
theorem dd_Md_init_216 : decode prog_9_method_1_code 216 = .ok (.iconst 5, 1) := by decide +kernel
theorem dd_Md_init_217 : decode prog_9_method_1_code 217 = .ok (.newarray .int, 2) := by decide +kernel
theorem dd_Md_init_219 : decode prog_9_method_1_code 219 = .ok (.putfield 96, 3) := by decide +kernel
theorem dd_Md_init_222 : decode prog_9_method_1_code 222 = .ok (.aload_n 0, 1) := by decide +kernel
theorem dd_Md_init_223 : decode prog_9_method_1_code 223 = .ok (.bipush 20, 2) := by decide +kernel
theorem dd_Md_init_225 : decode prog_9_method_1_code 225 = .ok (.newarray .int, 2) := by decide +kernel
theorem dd_Md_init_227 : decode prog_9_method_1_code 227 = .ok (.putfield 99, 3) := by decide +kernel
theorem dd_Md_init_230 : decode prog_9_method_1_code 230 = .ok (.aload_n 0, 1) := by decide +kernel
theorem dd_Md_init_231 : decode prog_9_method_1_code 231 = .ok (.sipush 245, 3) := by decide +kernel
theorem dd_Md_init_234 : decode prog_9_method_1_code 234 = .ok (.newarray .int, 2) := by decide +kernel
theorem dd_Md_init_236 : decode prog_9_method_1_code 236 = .ok (.putfield 102, 3) := by decide +kernel
theorem dd_Md_init_239 : decode prog_9_method_1_code 239 = .ok (.return_, 1) := by decide +kernel
theorem dd_Md_on_0 : decode prog_9_method_2_code 0 = .ok (.iload_n 1, 1) := by decide +kernel
theorem dd_Md_on_1 : decode prog_9_method_2_code 1 = .ok (.ifCond .lt 21, 3) := by decide +kernel
theorem dd_Md_on_4 : decode prog_9_method_2_code 4 = .ok (.iload_n 1, 1) := by decide +kernel
theorem dd_Md_on_5 : decode prog_9_method_2_code 5 = .ok (.iconst 4, 1) := by decide +kernel
theorem dd_Md_on_6 : decode prog_9_method_2_code 6 = .ok (.if_icmp .gt 16, 3) := by decide +kernel
theorem dd_Md_on_9 : decode prog_9_method_2_code 9 = .ok (.aload_n 0, 1) := by decide +kernel
theorem dd_Md_on_10 : decode prog_9_method_2_code 10 = .ok (.getfield 7, 3) := by decide +kernel
theorem dd_Md_on_13 : decode prog_9_method_2_code 13 = .ok (.iload_n 1, 1) := by decide +kernel
theorem dd_Md_on_14 : decode prog_9_method_2_code 14 = .ok (.iaload, 1) := by decide +kernel
theorem dd_Md_on_15 : decode prog_9_method_2_code 15 = .ok (.ifCond .eq 7, 3) := by decide +kernel
theorem dd_Md_on_18 : decode prog_9_method_2_code 18 = .ok (.iconst 1, 1) := by decide +kernel
theorem dd_Md_on_19 : decode prog_9_method_2_code 19 = .ok (.goto 4, 3) := by decide +kernel
theorem dd_Md_on_22 : decode prog_9_method_2_code 22 = .ok (.iconst 0, 1) := by decide +kernel
theorem dd_Md_on_23 : decode prog_9_method_2_code 23 = .ok (.ireturn, 1) := by decide +kernel
theorem dd_Md_packets_0 : decode prog_9_method_3_code 0 = .ok (.iload_n 0, 1) := by decide +kernel
theorem dd_Md_packets_1 : decode prog_9_method_3_code 1 = .ok (.bipush 6, 2) := by decide +kernel
theorem dd_Md_packets_3 : decode prog_9_method_3_code 3 = .ok (.iadd, 1) := by decide +kernel
theorem dd_Md_packets_4 : decode prog_9_method_3_code 4 = .ok (.bipush 7, 2) := by decide +kernel
theorem dd_Md_packets_6 : decode prog_9_method_3_code 6 = .ok (.idiv, 1) := by decide +kernel
theorem dd_Md_packets_7 : decode prog_9_method_3_code 7 = .ok (.ireturn, 1) := by decide +kernel
theorem dd_Md_source_0 : decode prog_9_method_4_code 0 = .ok (.aload_n 0, 1) := by decide +kernel
theorem dd_Md_source_1 : decode prog_9_method_4_code 1 = .ok (.getfield 7, 3) := by decide +kernel
theorem dd_Md_source_4 : decode prog_9_method_4_code 4 = .ok (.iload_n 1, 1) := by decide +kernel
theorem dd_Md_source_5 : decode prog_9_method_4_code 5 = .ok (.iaload, 1) := by decide +kernel
theorem dd_Md_source_6 : decode prog_9_method_4_code 6 = .ok (.iconst 3, 1) := by decide +kernel
theorem dd_Md_source_7 : decode prog_9_method_4_code 7 = .ok (.if_icmp .ne 9, 3) := by decide +kernel
theorem dd_Md_source_10 : decode prog_9_method_4_code 10 = .ok (.sipush 254, 3) := by decide +kernel
theorem dd_Md_source_13 : decode prog_9_method_4_code 13 = .ok (.goto 9, 3) := by decide +kernel
theorem dd_Md_source_16 : decode prog_9_method_4_code 16 = .ok (.aload_n 0, 1) := by decide +kernel
theorem dd_Md_source_17 : decode prog_9_method_4_code 17 = .ok (.getfield 13, 3) := by decide +kernel
theorem dd_Md_source_20 : decode prog_9_method_4_code 20 = .ok (.iload_n 1, 1) := by decide +kernel
theorem dd_Md_source_21 : decode prog_9_method_4_code 21 = .ok (.iaload, 1) := by decide +kernel
theorem dd_Md_source_22 : decode prog_9_method_4_code 22 = .ok (.ireturn, 1) := by decide +kernel
theorem dd_Md_put_0 : decode prog_9_method_5_code 0 = .ok (.aload_n 0, 1) := by decide +kernel
theorem dd_Md_put_1 : decode prog_9_method_5_code 1 = .ok (.getfield 105, 3) := by decide +kernel
theorem dd_Md_put_4 : decode prog_9_method_5_code 4 = .ok (.bipush 48, 2) := by decide +kernel
theorem dd_Md_put_6 : decode prog_9_method_5_code 6 = .ok (.if_icmp .ne 14, 3) := by decide +kernel
theorem dd_Md_put_9 : decode prog_9_method_5_code 9 = .ok (.aload_n 0, 1) := by decide +kernel
theorem dd_Md_put_10 : decode prog_9_method_5_code 10 = .ok (.dup, 1) := by decide +kernel
theorem dd_Md_put_11 : decode prog_9_method_5_code 11 = .ok (.getfield 109, 3) := by decide +kernel
theorem dd_Md_put_14 : decode prog_9_method_5_code 14 = .ok (.iconst 1, 1) := by decide +kernel
theorem dd_Md_put_15 : decode prog_9_method_5_code 15 = .ok (.iadd, 1) := by decide +kernel
theorem dd_Md_put_16 : decode prog_9_method_5_code 16 = .ok (.putfield 109, 3) := by decide +kernel
theorem dd_Md_put_19 : decode prog_9_method_5_code 19 = .ok (.return_, 1) := by decide +kernel
theorem dd_Md_put_20 : decode prog_9_method_5_code 20 = .ok (.aload_n 0, 1) := by decide +kernel
theorem dd_Md_put_21 : decode prog_9_method_5_code 21 = .ok (.getfield 30, 3) := by decide +kernel
theorem dd_Md_put_24 : decode prog_9_method_5_code 24 = .ok (.aload_n 0, 1) := by decide +kernel
theorem dd_Md_put_25 : decode prog_9_method_5_code 25 = .ok (.getfield 105, 3) := by decide +kernel
theorem dd_Md_put_28 : decode prog_9_method_5_code 28 = .ok (.iload_n 2, 1) := by decide +kernel
theorem dd_Md_put_29 : decode prog_9_method_5_code 29 = .ok (.bipush 26, 2) := by decide +kernel
theorem dd_Md_put_31 : decode prog_9_method_5_code 31 = .ok (.ishl, 1) := by decide +kernel
theorem dd_Md_put_32 : decode prog_9_method_5_code 32 = .ok (.iload_n 3, 1) := by decide +kernel
theorem dd_Md_put_33 : decode prog_9_method_5_code 33 = .ok (.bipush 16, 2) := by decide +kernel
theorem dd_Md_put_35 : decode prog_9_method_5_code 35 = .ok (.ishl, 1) := by decide +kernel
theorem dd_Md_put_36 : decode prog_9_method_5_code 36 = .ok (.ior, 1) := by decide +kernel
theorem dd_Md_put_37 : decode prog_9_method_5_code 37 = .ok (.iload 4, 2) := by decide +kernel
theorem dd_Md_put_39 : decode prog_9_method_5_code 39 = .ok (.bipush 8, 2) := by decide +kernel
theorem dd_Md_put_41 : decode prog_9_method_5_code 41 = .ok (.ishl, 1) := by decide +kernel
theorem dd_Md_put_42 : decode prog_9_method_5_code 42 = .ok (.ior, 1) := by decide +kernel
theorem dd_Md_put_43 : decode prog_9_method_5_code 43 = .ok (.aload_n 0, 1) := by decide +kernel
theorem dd_Md_put_44 : decode prog_9_method_5_code 44 = .ok (.iload_n 1, 1) := by decide +kernel
theorem dd_Md_put_45 : decode prog_9_method_5_code 45 = .ok (.invokevirtual 112, 3) := by decide +kernel
theorem dd_Md_put_48 : decode prog_9_method_5_code 48 = .ok (.ior, 1) := by decide +kernel
theorem dd_Md_put_49 : decode prog_9_method_5_code 49 = .ok (.iastore, 1) := by decide +kernel
theorem dd_Md_put_50 : decode prog_9_method_5_code 50 = .ok (.aload_n 0, 1) := by decide +kernel
theorem dd_Md_put_51 : decode prog_9_method_5_code 51 = .ok (.getfield 33, 3) := by decide +kernel
theorem dd_Md_put_54 : decode prog_9_method_5_code 54 = .ok (.aload_n 0, 1) := by decide +kernel
theorem dd_Md_put_55 : decode prog_9_method_5_code 55 = .ok (.getfield 105, 3) := by decide +kernel
theorem dd_Md_put_58 : decode prog_9_method_5_code 58 = .ok (.lload 5, 2) := by decide +kernel
theorem dd_Md_put_60 : decode prog_9_method_5_code 60 = .ok (.lastore, 1) := by decide +kernel
theorem dd_Md_put_61 : decode prog_9_method_5_code 61 = .ok (.aload_n 0, 1) := by decide +kernel
theorem dd_Md_put_62 : decode prog_9_method_5_code 62 = .ok (.getfield 36, 3) := by decide +kernel
theorem dd_Md_put_65 : decode prog_9_method_5_code 65 = .ok (.aload_n 0, 1) := by decide +kernel
theorem dd_Md_put_66 : decode prog_9_method_5_code 66 = .ok (.getfield 105, 3) := by decide +kernel
theorem dd_Md_put_69 : decode prog_9_method_5_code 69 = .ok (.iload_n 1, 1) := by decide +kernel
theorem dd_Md_put_70 : decode prog_9_method_5_code 70 = .ok (.iastore, 1) := by decide +kernel
theorem dd_Md_put_71 : decode prog_9_method_5_code 71 = .ok (.aload_n 0, 1) := by decide +kernel
theorem dd_Md_put_72 : decode prog_9_method_5_code 72 = .ok (.dup, 1) := by decide +kernel
theorem dd_Md_put_73 : decode prog_9_method_5_code 73 = .ok (.getfield 105, 3) := by decide +kernel
theorem dd_Md_put_76 : decode prog_9_method_5_code 76 = .ok (.iconst 1, 1) := by decide +kernel
theorem dd_Md_put_77 : decode prog_9_method_5_code 77 = .ok (.iadd, 1) := by decide +kernel
theorem dd_Md_put_78 : decode prog_9_method_5_code 78 = .ok (.putfield 105, 3) := by decide +kernel
theorem dd_Md_put_81 : decode prog_9_method_5_code 81 = .ok (.return_, 1) := by decide +kernel
theorem dd_Md_putClaim_0 : decode prog_9_method_6_code 0 = .ok (.aload_n 0, 1) := by decide +kernel
theorem dd_Md_putClaim_1 : decode prog_9_method_6_code 1 = .ok (.iload_n 1, 1) := by decide +kernel
theorem dd_Md_putClaim_2 : decode prog_9_method_6_code 2 = .ok (.bipush 6, 2) := by decide +kernel
theorem dd_Md_putClaim_4 : decode prog_9_method_6_code 4 = .ok (.sipush 238, 3) := by decide +kernel
theorem dd_Md_putClaim_7 : decode prog_9_method_6_code 7 = .ok (.sipush 255, 3) := by decide +kernel
theorem dd_Md_putClaim_10 : decode prog_9_method_6_code 10 = .ok (.aload_n 0, 1) := by decide +kernel
theorem dd_Md_putClaim_11 : decode prog_9_method_6_code 11 = .ok (.getfield 16, 3) := by decide +kernel
theorem dd_Md_putClaim_14 : decode prog_9_method_6_code 14 = .ok (.iload_n 1, 1) := by decide +kernel
theorem dd_Md_putClaim_15 : decode prog_9_method_6_code 15 = .ok (.laload, 1) := by decide +kernel
theorem dd_Md_putClaim_16 : decode prog_9_method_6_code 16 = .ok (.invokevirtual 116, 3) := by decide +kernel
theorem dd_Md_putClaim_19 : decode prog_9_method_6_code 19 = .ok (.return_, 1) := by decide +kernel
theorem dd_Md_putControl_0 : decode prog_9_method_7_code 0 = .ok (.aload_n 0, 1) := by decide +kernel
theorem dd_Md_putControl_1 : decode prog_9_method_7_code 1 = .ok (.iload_n 1, 1) := by decide +kernel
theorem dd_Md_putControl_2 : decode prog_9_method_7_code 2 = .ok (.bipush 7, 2) := by decide +kernel
theorem dd_Md_putControl_4 : decode prog_9_method_7_code 4 = .ok (.sipush 236, 3) := by decide +kernel
theorem dd_Md_putControl_7 : decode prog_9_method_7_code 7 = .ok (.iload_n 2, 1) := by decide +kernel
theorem dd_Md_putControl_8 : decode prog_9_method_7_code 8 = .ok (.iload_n 3, 1) := by decide +kernel
theorem dd_Md_putControl_9 : decode prog_9_method_7_code 9 = .ok (.i2l, 1) := by decide +kernel
theorem dd_Md_putControl_10 : decode prog_9_method_7_code 10 = .ok (.iload 4, 2) := by decide +kernel
theorem dd_Md_putControl_12 : decode prog_9_method_7_code 12 = .ok (.i2l, 1) := by decide +kernel
theorem dd_Md_putControl_13 : decode prog_9_method_7_code 13 = .ok (.bipush 8, 2) := by decide +kernel
theorem dd_Md_putControl_15 : decode prog_9_method_7_code 15 = .ok (.lshl, 1) := by decide +kernel
theorem dd_Md_putControl_16 : decode prog_9_method_7_code 16 = .ok (.lor, 1) := by decide +kernel
theorem dd_Md_putControl_17 : decode prog_9_method_7_code 17 = .ok (.iload 5, 2) := by decide +kernel
theorem dd_Md_putControl_19 : decode prog_9_method_7_code 19 = .ok (.i2l, 1) := by decide +kernel
theorem dd_Md_putControl_20 : decode prog_9_method_7_code 20 = .ok (.bipush 16, 2) := by decide +kernel
theorem dd_Md_putControl_22 : decode prog_9_method_7_code 22 = .ok (.lshl, 1) := by decide +kernel
theorem dd_Md_putControl_23 : decode prog_9_method_7_code 23 = .ok (.lor, 1) := by decide +kernel
theorem dd_Md_putControl_24 : decode prog_9_method_7_code 24 = .ok (.iload 6, 2) := by decide +kernel
theorem dd_Md_putControl_26 : decode prog_9_method_7_code 26 = .ok (.i2l, 1) := by decide +kernel
theorem dd_Md_putControl_27 : decode prog_9_method_7_code 27 = .ok (.bipush 24, 2) := by decide +kernel
theorem dd_Md_putControl_29 : decode prog_9_method_7_code 29 = .ok (.lshl, 1) := by decide +kernel
theorem dd_Md_putControl_30 : decode prog_9_method_7_code 30 = .ok (.lor, 1) := by decide +kernel
theorem dd_Md_putControl_31 : decode prog_9_method_7_code 31 = .ok (.ldc2_w 120, 3) := by decide +kernel
theorem dd_Md_putControl_34 : decode prog_9_method_7_code 34 = .ok (.lor, 1) := by decide +kernel
theorem dd_Md_putControl_35 : decode prog_9_method_7_code 35 = .ok (.iload 7, 2) := by decide +kernel
theorem dd_Md_putControl_37 : decode prog_9_method_7_code 37 = .ok (.i2l, 1) := by decide +kernel
theorem dd_Md_putControl_38 : decode prog_9_method_7_code 38 = .ok (.bipush 40, 2) := by decide +kernel
theorem dd_Md_putControl_40 : decode prog_9_method_7_code 40 = .ok (.lshl, 1) := by decide +kernel
theorem dd_Md_putControl_41 : decode prog_9_method_7_code 41 = .ok (.lor, 1) := by decide +kernel
theorem dd_Md_putControl_42 : decode prog_9_method_7_code 42 = .ok (.invokevirtual 116, 3) := by decide +kernel
theorem dd_Md_putControl_45 : decode prog_9_method_7_code 45 = .ok (.return_, 1) := by decide +kernel
theorem dd_Md_putAbort_0 : decode prog_9_method_8_code 0 = .ok (.aload_n 0, 1) := by decide +kernel
theorem dd_Md_putAbort_1 : decode prog_9_method_8_code 1 = .ok (.iload_n 1, 1) := by decide +kernel
theorem dd_Md_putAbort_2 : decode prog_9_method_8_code 2 = .ok (.iload_n 2, 1) := by decide +kernel
theorem dd_Md_putAbort_3 : decode prog_9_method_8_code 3 = .ok (.sipush 255, 3) := by decide +kernel
theorem dd_Md_putAbort_6 : decode prog_9_method_8_code 6 = .ok (.iload_n 3, 1) := by decide +kernel
theorem dd_Md_putAbort_7 : decode prog_9_method_8_code 7 = .ok (.sipush 255, 3) := by decide +kernel
theorem dd_Md_putAbort_10 : decode prog_9_method_8_code 10 = .ok (.sipush 255, 3) := by decide +kernel
theorem dd_Md_putAbort_13 : decode prog_9_method_8_code 13 = .ok (.iload 4, 2) := by decide +kernel
theorem dd_Md_putAbort_15 : decode prog_9_method_8_code 15 = .ok (.invokevirtual 122, 3) := by decide +kernel
theorem dd_Md_putAbort_18 : decode prog_9_method_8_code 18 = .ok (.return_, 1) := by decide +kernel
theorem dd_Md_putPacket_0 : decode prog_9_method_9_code 0 = .ok (.iload_n 2, 1) := by decide +kernel
theorem dd_Md_putPacket_1 : decode prog_9_method_9_code 1 = .ok (.i2l, 1) := by decide +kernel
theorem dd_Md_putPacket_2 : decode prog_9_method_9_code 2 = .ok (.lstore_n 3, 1) := by decide +kernel
theorem dd_Md_putPacket_3 : decode prog_9_method_9_code 3 = .ok (.iconst 0, 1) := by decide +kernel
theorem dd_Md_putPacket_4 : decode prog_9_method_9_code 4 = .ok (.istore 5, 2) := by decide +kernel
theorem dd_Md_putPacket_6 : decode prog_9_method_9_code 6 = .ok (.iload 5, 2) := by decide +kernel
theorem dd_Md_putPacket_8 : decode prog_9_method_9_code 8 = .ok (.bipush 7, 2) := by decide +kernel
theorem dd_Md_putPacket_10 : decode prog_9_method_9_code 10 = .ok (.if_icmp .ge 77, 3) := by decide +kernel
theorem dd_Md_putPacket_13 : decode prog_9_method_9_code 13 = .ok (.bipush 7, 2) := by decide +kernel
theorem dd_Md_putPacket_15 : decode prog_9_method_9_code 15 = .ok (.iload_n 2, 1) := by decide +kernel
theorem dd_Md_putPacket_16 : decode prog_9_method_9_code 16 = .ok (.imul, 1) := by decide +kernel
theorem dd_Md_putPacket_17 : decode prog_9_method_9_code 17 = .ok (.bipush 7, 2) := by decide +kernel
theorem dd_Md_putPacket_19 : decode prog_9_method_9_code 19 = .ok (.isub, 1) := by decide +kernel
theorem dd_Md_putPacket_20 : decode prog_9_method_9_code 20 = .ok (.iload 5, 2) := by decide +kernel
theorem dd_Md_putPacket_22 : decode prog_9_method_9_code 22 = .ok (.iadd, 1) := by decide +kernel
theorem dd_Md_putPacket_23 : decode prog_9_method_9_code 23 = .ok (.istore 6, 2) := by decide +kernel
theorem dd_Md_putPacket_25 : decode prog_9_method_9_code 25 = .ok (.iload 6, 2) := by decide +kernel
theorem dd_Md_putPacket_27 : decode prog_9_method_9_code 27 = .ok (.aload_n 0, 1) := by decide +kernel
theorem dd_Md_putPacket_28 : decode prog_9_method_9_code 28 = .ok (.getfield 51, 3) := by decide +kernel
theorem dd_Md_putPacket_31 : decode prog_9_method_9_code 31 = .ok (.iload_n 1, 1) := by decide +kernel
theorem dd_Md_putPacket_32 : decode prog_9_method_9_code 32 = .ok (.iaload, 1) := by decide +kernel
theorem dd_Md_putPacket_33 : decode prog_9_method_9_code 33 = .ok (.if_icmp .ge 29, 3) := by decide +kernel
theorem dd_Md_putPacket_36 : decode prog_9_method_9_code 36 = .ok (.aload_n 0, 1) := by decide +kernel
theorem dd_Md_putPacket_37 : decode prog_9_method_9_code 37 = .ok (.getfield 54, 3) := by decide +kernel
theorem dd_Md_putPacket_40 : decode prog_9_method_9_code 40 = .ok (.iload_n 1, 1) := by decide +kernel
theorem dd_Md_putPacket_41 : decode prog_9_method_9_code 41 = .ok (.laload, 1) := by decide +kernel
theorem dd_Md_putPacket_42 : decode prog_9_method_9_code 42 = .ok (.bipush 8, 2) := by decide +kernel
theorem dd_Md_putPacket_44 : decode prog_9_method_9_code 44 = .ok (.iload 6, 2) := by decide +kernel
theorem dd_Md_putPacket_46 : decode prog_9_method_9_code 46 = .ok (.bipush 8, 2) := by decide +kernel
theorem dd_Md_putPacket_48 : decode prog_9_method_9_code 48 = .ok (.irem, 1) := by decide +kernel
theorem dd_Md_putPacket_49 : decode prog_9_method_9_code 49 = .ok (.imul, 1) := by decide +kernel
theorem dd_Md_putPacket_50 : decode prog_9_method_9_code 50 = .ok (.lshr, 1) := by decide +kernel
theorem dd_Md_putPacket_51 : decode prog_9_method_9_code 51 = .ok (.iload 6, 2) := by decide +kernel
theorem dd_Md_putPacket_53 : decode prog_9_method_9_code 53 = .ok (.i2l, 1) := by decide +kernel
theorem dd_Md_putPacket_54 : decode prog_9_method_9_code 54 = .ok (.ladd, 1) := by decide +kernel
theorem dd_Md_putPacket_55 : decode prog_9_method_9_code 55 = .ok (.ldc2_w 126, 3) := by decide +kernel
theorem dd_Md_putPacket_58 : decode prog_9_method_9_code 58 = .ok (.land, 1) := by decide +kernel
theorem dd_Md_putPacket_59 : decode prog_9_method_9_code 59 = .ok (.goto 6, 3) := by decide +kernel
theorem dd_Md_putPacket_62 : decode prog_9_method_9_code 62 = .ok (.ldc2_w 126, 3) := by decide +kernel
theorem dd_Md_putPacket_65 : decode prog_9_method_9_code 65 = .ok (.lstore 7, 2) := by decide +kernel
theorem dd_Md_putPacket_67 : decode prog_9_method_9_code 67 = .ok (.lload_n 3, 1) := by decide +kernel
theorem dd_Md_putPacket_68 : decode prog_9_method_9_code 68 = .ok (.lload 7, 2) := by decide +kernel
theorem dd_Md_putPacket_70 : decode prog_9_method_9_code 70 = .ok (.bipush 8, 2) := by decide +kernel
theorem dd_Md_putPacket_72 : decode prog_9_method_9_code 72 = .ok (.iload 5, 2) := by decide +kernel
theorem dd_Md_putPacket_74 : decode prog_9_method_9_code 74 = .ok (.imul, 1) := by decide +kernel
theorem dd_Md_putPacket_75 : decode prog_9_method_9_code 75 = .ok (.bipush 8, 2) := by decide +kernel
theorem dd_Md_putPacket_77 : decode prog_9_method_9_code 77 = .ok (.iadd, 1) := by decide +kernel
theorem dd_Md_putPacket_78 : decode prog_9_method_9_code 78 = .ok (.lshl, 1) := by decide +kernel
theorem dd_Md_putPacket_79 : decode prog_9_method_9_code 79 = .ok (.lor, 1) := by decide +kernel
theorem dd_Md_putPacket_80 : decode prog_9_method_9_code 80 = .ok (.lstore_n 3, 1) := by decide +kernel
theorem dd_Md_putPacket_81 : decode prog_9_method_9_code 81 = .ok (.iinc 5 1, 3) := by decide +kernel
theorem dd_Md_putPacket_84 : decode prog_9_method_9_code 84 = .ok (.goto (-78), 3) := by decide +kernel
theorem dd_Md_putPacket_87 : decode prog_9_method_9_code 87 = .ok (.aload_n 0, 1) := by decide +kernel
theorem dd_Md_putPacket_88 : decode prog_9_method_9_code 88 = .ok (.iload_n 1, 1) := by decide +kernel
theorem dd_Md_putPacket_89 : decode prog_9_method_9_code 89 = .ok (.bipush 7, 2) := by decide +kernel
theorem dd_Md_putPacket_91 : decode prog_9_method_9_code 91 = .ok (.sipush 235, 3) := by decide +kernel
theorem dd_Md_putPacket_94 : decode prog_9_method_9_code 94 = .ok (.aload_n 0, 1) := by decide +kernel
theorem dd_Md_putPacket_95 : decode prog_9_method_9_code 95 = .ok (.getfield 45, 3) := by decide +kernel
theorem dd_Md_putPacket_98 : decode prog_9_method_9_code 98 = .ok (.iload_n 1, 1) := by decide +kernel
theorem dd_Md_putPacket_99 : decode prog_9_method_9_code 99 = .ok (.iaload, 1) := by decide +kernel
theorem dd_Md_putPacket_100 : decode prog_9_method_9_code 100 = .ok (.lload_n 3, 1) := by decide +kernel
theorem dd_Md_putPacket_101 : decode prog_9_method_9_code 101 = .ok (.invokevirtual 116, 3) := by decide +kernel
theorem dd_Md_putPacket_104 : decode prog_9_method_9_code 104 = .ok (.return_, 1) := by decide +kernel
theorem dd_Md_takeAway_0 : decode prog_9_method_10_code 0 = .ok (.aload_n 0, 1) := by decide +kernel
theorem dd_Md_takeAway_1 : decode prog_9_method_10_code 1 = .ok (.dup, 1) := by decide +kernel
theorem dd_Md_takeAway_2 : decode prog_9_method_10_code 2 = .ok (.getfield 105, 3) := by decide +kernel
theorem dd_Md_takeAway_5 : decode prog_9_method_10_code 5 = .ok (.iconst 1, 1) := by decide +kernel
theorem dd_Md_takeAway_6 : decode prog_9_method_10_code 6 = .ok (.isub, 1) := by decide +kernel
theorem dd_Md_takeAway_7 : decode prog_9_method_10_code 7 = .ok (.putfield 105, 3) := by decide +kernel
theorem dd_Md_takeAway_10 : decode prog_9_method_10_code 10 = .ok (.iload_n 1, 1) := by decide +kernel
theorem dd_Md_takeAway_11 : decode prog_9_method_10_code 11 = .ok (.istore_n 2, 1) := by decide +kernel
theorem dd_Md_takeAway_12 : decode prog_9_method_10_code 12 = .ok (.iload_n 2, 1) := by decide +kernel
theorem dd_Md_takeAway_13 : decode prog_9_method_10_code 13 = .ok (.aload_n 0, 1) := by decide +kernel
theorem dd_Md_takeAway_14 : decode prog_9_method_10_code 14 = .ok (.getfield 105, 3) := by decide +kernel
theorem dd_Md_takeAway_17 : decode prog_9_method_10_code 17 = .ok (.if_icmp .ge 51, 3) := by decide +kernel
theorem dd_Md_takeAway_20 : decode prog_9_method_10_code 20 = .ok (.aload_n 0, 1) := by decide +kernel
theorem dd_Md_takeAway_21 : decode prog_9_method_10_code 21 = .ok (.getfield 30, 3) := by decide +kernel
theorem dd_Md_takeAway_24 : decode prog_9_method_10_code 24 = .ok (.iload_n 2, 1) := by decide +kernel
theorem dd_Md_takeAway_25 : decode prog_9_method_10_code 25 = .ok (.aload_n 0, 1) := by decide +kernel
theorem dd_Md_takeAway_26 : decode prog_9_method_10_code 26 = .ok (.getfield 30, 3) := by decide +kernel
theorem dd_Md_takeAway_29 : decode prog_9_method_10_code 29 = .ok (.iload_n 2, 1) := by decide +kernel
theorem dd_Md_takeAway_30 : decode prog_9_method_10_code 30 = .ok (.iconst 1, 1) := by decide +kernel
theorem dd_Md_takeAway_31 : decode prog_9_method_10_code 31 = .ok (.iadd, 1) := by decide +kernel
theorem dd_Md_takeAway_32 : decode prog_9_method_10_code 32 = .ok (.iaload, 1) := by decide +kernel
theorem dd_Md_takeAway_33 : decode prog_9_method_10_code 33 = .ok (.iastore, 1) := by decide +kernel
theorem dd_Md_takeAway_34 : decode prog_9_method_10_code 34 = .ok (.aload_n 0, 1) := by decide +kernel
theorem dd_Md_takeAway_35 : decode prog_9_method_10_code 35 = .ok (.getfield 33, 3) := by decide +kernel
theorem dd_Md_takeAway_38 : decode prog_9_method_10_code 38 = .ok (.iload_n 2, 1) := by decide +kernel
theorem dd_Md_takeAway_39 : decode prog_9_method_10_code 39 = .ok (.aload_n 0, 1) := by decide +kernel
theorem dd_Md_takeAway_40 : decode prog_9_method_10_code 40 = .ok (.getfield 33, 3) := by decide +kernel
theorem dd_Md_takeAway_43 : decode prog_9_method_10_code 43 = .ok (.iload_n 2, 1) := by decide +kernel
theorem dd_Md_takeAway_44 : decode prog_9_method_10_code 44 = .ok (.iconst 1, 1) := by decide +kernel
theorem dd_Md_takeAway_45 : decode prog_9_method_10_code 45 = .ok (.iadd, 1) := by decide +kernel
theorem dd_Md_takeAway_46 : decode prog_9_method_10_code 46 = .ok (.laload, 1) := by decide +kernel
theorem dd_Md_takeAway_47 : decode prog_9_method_10_code 47 = .ok (.lastore, 1) := by decide +kernel
theorem dd_Md_takeAway_48 : decode prog_9_method_10_code 48 = .ok (.aload_n 0, 1) := by decide +kernel
theorem dd_Md_takeAway_49 : decode prog_9_method_10_code 49 = .ok (.getfield 36, 3) := by decide +kernel
theorem dd_Md_takeAway_52 : decode prog_9_method_10_code 52 = .ok (.iload_n 2, 1) := by decide +kernel
theorem dd_Md_takeAway_53 : decode prog_9_method_10_code 53 = .ok (.aload_n 0, 1) := by decide +kernel
theorem dd_Md_takeAway_54 : decode prog_9_method_10_code 54 = .ok (.getfield 36, 3) := by decide +kernel
theorem dd_Md_takeAway_57 : decode prog_9_method_10_code 57 = .ok (.iload_n 2, 1) := by decide +kernel
theorem dd_Md_takeAway_58 : decode prog_9_method_10_code 58 = .ok (.iconst 1, 1) := by decide +kernel
theorem dd_Md_takeAway_59 : decode prog_9_method_10_code 59 = .ok (.iadd, 1) := by decide +kernel
theorem dd_Md_takeAway_60 : decode prog_9_method_10_code 60 = .ok (.iaload, 1) := by decide +kernel
theorem dd_Md_takeAway_61 : decode prog_9_method_10_code 61 = .ok (.iastore, 1) := by decide +kernel
theorem dd_Md_takeAway_62 : decode prog_9_method_10_code 62 = .ok (.iinc 2 1, 3) := by decide +kernel
theorem dd_Md_takeAway_65 : decode prog_9_method_10_code 65 = .ok (.goto (-53), 3) := by decide +kernel
theorem dd_Md_takeAway_68 : decode prog_9_method_10_code 68 = .ok (.return_, 1) := by decide +kernel
theorem dd_Md_next_0 : decode prog_9_method_11_code 0 = .ok (.iconst (-1), 1) := by decide +kernel
theorem dd_Md_next_1 : decode prog_9_method_11_code 1 = .ok (.istore_n 1, 1) := by decide +kernel
theorem dd_Md_next_2 : decode prog_9_method_11_code 2 = .ok (.iconst 0, 1) := by decide +kernel
theorem dd_Md_next_3 : decode prog_9_method_11_code 3 = .ok (.istore_n 2, 1) := by decide +kernel
theorem dd_Md_next_4 : decode prog_9_method_11_code 4 = .ok (.iload_n 2, 1) := by decide +kernel
theorem dd_Md_next_5 : decode prog_9_method_11_code 5 = .ok (.aload_n 0, 1) := by decide +kernel
theorem dd_Md_next_6 : decode prog_9_method_11_code 6 = .ok (.getfield 105, 3) := by decide +kernel
theorem dd_Md_next_9 : decode prog_9_method_11_code 9 = .ok (.if_icmp .ge 30, 3) := by decide +kernel
theorem dd_Md_next_12 : decode prog_9_method_11_code 12 = .ok (.iload_n 1, 1) := by decide +kernel
theorem dd_Md_next_13 : decode prog_9_method_11_code 13 = .ok (.ifCond .lt 18, 3) := by decide +kernel
theorem dd_Md_next_16 : decode prog_9_method_11_code 16 = .ok (.aload_n 0, 1) := by decide +kernel
theorem dd_Md_next_17 : decode prog_9_method_11_code 17 = .ok (.getfield 30, 3) := by decide +kernel
theorem dd_Md_next_20 : decode prog_9_method_11_code 20 = .ok (.iload_n 2, 1) := by decide +kernel
theorem dd_Md_next_21 : decode prog_9_method_11_code 21 = .ok (.iaload, 1) := by decide +kernel
theorem dd_Md_next_22 : decode prog_9_method_11_code 22 = .ok (.aload_n 0, 1) := by decide +kernel
theorem dd_Md_next_23 : decode prog_9_method_11_code 23 = .ok (.getfield 30, 3) := by decide +kernel
theorem dd_Md_next_26 : decode prog_9_method_11_code 26 = .ok (.iload_n 1, 1) := by decide +kernel
theorem dd_Md_next_27 : decode prog_9_method_11_code 27 = .ok (.iaload, 1) := by decide +kernel
theorem dd_Md_next_28 : decode prog_9_method_11_code 28 = .ok (.if_icmp .ge 5, 3) := by decide +kernel
theorem dd_Md_next_31 : decode prog_9_method_11_code 31 = .ok (.iload_n 2, 1) := by decide +kernel
theorem dd_Md_next_32 : decode prog_9_method_11_code 32 = .ok (.istore_n 1, 1) := by decide +kernel
theorem dd_Md_next_33 : decode prog_9_method_11_code 33 = .ok (.iinc 2 1, 3) := by decide +kernel
theorem dd_Md_next_36 : decode prog_9_method_11_code 36 = .ok (.goto (-32), 3) := by decide +kernel
theorem dd_Md_next_39 : decode prog_9_method_11_code 39 = .ok (.iload_n 1, 1) := by decide +kernel
theorem dd_Md_next_40 : decode prog_9_method_11_code 40 = .ok (.ireturn, 1) := by decide +kernel
theorem dd_Md_waiting_0 : decode prog_9_method_12_code 0 = .ok (.aload_n 0, 1) := by decide +kernel
theorem dd_Md_waiting_1 : decode prog_9_method_12_code 1 = .ok (.getfield 105, 3) := by decide +kernel
theorem dd_Md_waiting_4 : decode prog_9_method_12_code 4 = .ok (.ireturn, 1) := by decide +kernel
theorem dd_Md_identifier_0 : decode prog_9_method_13_code 0 = .ok (.aload_n 0, 1) := by decide +kernel
theorem dd_Md_identifier_1 : decode prog_9_method_13_code 1 = .ok (.invokevirtual 128, 3) := by decide +kernel
theorem dd_Md_identifier_4 : decode prog_9_method_13_code 4 = .ok (.istore_n 1, 1) := by decide +kernel
theorem dd_Md_identifier_5 : decode prog_9_method_13_code 5 = .ok (.iload_n 1, 1) := by decide +kernel
theorem dd_Md_identifier_6 : decode prog_9_method_13_code 6 = .ok (.ifCond .ge 7, 3) := by decide +kernel
theorem dd_Md_identifier_9 : decode prog_9_method_13_code 9 = .ok (.iconst (-1), 1) := by decide +kernel
theorem dd_Md_identifier_10 : decode prog_9_method_13_code 10 = .ok (.goto 9, 3) := by decide +kernel
theorem dd_Md_identifier_13 : decode prog_9_method_13_code 13 = .ok (.aload_n 0, 1) := by decide +kernel
theorem dd_Md_identifier_14 : decode prog_9_method_13_code 14 = .ok (.getfield 30, 3) := by decide +kernel
theorem dd_Md_identifier_17 : decode prog_9_method_13_code 17 = .ok (.iload_n 1, 1) := by decide +kernel
theorem dd_Md_identifier_18 : decode prog_9_method_13_code 18 = .ok (.iaload, 1) := by decide +kernel
theorem dd_Md_identifier_19 : decode prog_9_method_13_code 19 = .ok (.ireturn, 1) := by decide +kernel
theorem dd_Md_data_0 : decode prog_9_method_14_code 0 = .ok (.aload_n 0, 1) := by decide +kernel
theorem dd_Md_data_1 : decode prog_9_method_14_code 1 = .ok (.invokevirtual 128, 3) := by decide +kernel
theorem dd_Md_data_4 : decode prog_9_method_14_code 4 = .ok (.istore_n 1, 1) := by decide +kernel
theorem dd_Md_data_5 : decode prog_9_method_14_code 5 = .ok (.iload_n 1, 1) := by decide +kernel
theorem dd_Md_data_6 : decode prog_9_method_14_code 6 = .ok (.ifCond .ge 7, 3) := by decide +kernel
theorem dd_Md_data_9 : decode prog_9_method_14_code 9 = .ok (.lconst 0, 1) := by decide +kernel
theorem dd_Md_data_10 : decode prog_9_method_14_code 10 = .ok (.goto 9, 3) := by decide +kernel
theorem dd_Md_data_13 : decode prog_9_method_14_code 13 = .ok (.aload_n 0, 1) := by decide +kernel
theorem dd_Md_data_14 : decode prog_9_method_14_code 14 = .ok (.getfield 33, 3) := by decide +kernel
theorem dd_Md_data_17 : decode prog_9_method_14_code 17 = .ok (.iload_n 1, 1) := by decide +kernel
theorem dd_Md_data_18 : decode prog_9_method_14_code 18 = .ok (.laload, 1) := by decide +kernel
theorem dd_Md_data_19 : decode prog_9_method_14_code 19 = .ok (.lreturn, 1) := by decide +kernel
theorem dd_Md_lose_0 : decode prog_9_method_15_code 0 = .ok (.aload_n 0, 1) := by decide +kernel
theorem dd_Md_lose_1 : decode prog_9_method_15_code 1 = .ok (.invokevirtual 128, 3) := by decide +kernel
theorem dd_Md_lose_4 : decode prog_9_method_15_code 4 = .ok (.istore_n 1, 1) := by decide +kernel
theorem dd_Md_lose_5 : decode prog_9_method_15_code 5 = .ok (.iload_n 1, 1) := by decide +kernel
theorem dd_Md_lose_6 : decode prog_9_method_15_code 6 = .ok (.ifCond .lt 8, 3) := by decide +kernel
theorem dd_Md_lose_9 : decode prog_9_method_15_code 9 = .ok (.aload_n 0, 1) := by decide +kernel
theorem dd_Md_lose_10 : decode prog_9_method_15_code 10 = .ok (.iload_n 1, 1) := by decide +kernel
theorem dd_Md_lose_11 : decode prog_9_method_15_code 11 = .ok (.invokevirtual 132, 3) := by decide +kernel
theorem dd_Md_lose_14 : decode prog_9_method_15_code 14 = .ok (.iload_n 1, 1) := by decide +kernel
theorem dd_Md_lose_15 : decode prog_9_method_15_code 15 = .ok (.ifCond .lt 7, 3) := by decide +kernel
theorem dd_Md_lose_18 : decode prog_9_method_15_code 18 = .ok (.iconst 1, 1) := by decide +kernel
theorem dd_Md_lose_19 : decode prog_9_method_15_code 19 = .ok (.goto 4, 3) := by decide +kernel
theorem dd_Md_lose_22 : decode prog_9_method_15_code 22 = .ok (.iconst 0, 1) := by decide +kernel
theorem dd_Md_lose_23 : decode prog_9_method_15_code 23 = .ok (.ireturn, 1) := by decide +kernel
theorem dd_Md_overflowed_0 : decode prog_9_method_16_code 0 = .ok (.aload_n 0, 1) := by decide +kernel
theorem dd_Md_overflowed_1 : decode prog_9_method_16_code 1 = .ok (.getfield 109, 3) := by decide +kernel
theorem dd_Md_overflowed_4 : decode prog_9_method_16_code 4 = .ok (.ireturn, 1) := by decide +kernel
theorem dd_Md_deliver_0 : decode prog_9_method_17_code 0 = .ok (.aload_n 0, 1) := by decide +kernel
theorem dd_Md_deliver_1 : decode prog_9_method_17_code 1 = .ok (.invokevirtual 128, 3) := by decide +kernel
theorem dd_Md_deliver_4 : decode prog_9_method_17_code 4 = .ok (.istore_n 2, 1) := by decide +kernel
theorem dd_Md_deliver_5 : decode prog_9_method_17_code 5 = .ok (.iload_n 2, 1) := by decide +kernel
theorem dd_Md_deliver_6 : decode prog_9_method_17_code 6 = .ok (.ifCond .ge 5, 3) := by decide +kernel
theorem dd_Md_deliver_9 : decode prog_9_method_17_code 9 = .ok (.iconst 0, 1) := by decide +kernel
theorem dd_Md_deliver_10 : decode prog_9_method_17_code 10 = .ok (.ireturn, 1) := by decide +kernel
theorem dd_Md_deliver_11 : decode prog_9_method_17_code 11 = .ok (.aload_n 0, 1) := by decide +kernel
theorem dd_Md_deliver_12 : decode prog_9_method_17_code 12 = .ok (.getfield 30, 3) := by decide +kernel
theorem dd_Md_deliver_15 : decode prog_9_method_17_code 15 = .ok (.iload_n 2, 1) := by decide +kernel
theorem dd_Md_deliver_16 : decode prog_9_method_17_code 16 = .ok (.iaload, 1) := by decide +kernel
theorem dd_Md_deliver_17 : decode prog_9_method_17_code 17 = .ok (.istore_n 3, 1) := by decide +kernel
theorem dd_Md_deliver_18 : decode prog_9_method_17_code 18 = .ok (.aload_n 0, 1) := by decide +kernel
theorem dd_Md_deliver_19 : decode prog_9_method_17_code 19 = .ok (.getfield 33, 3) := by decide +kernel
theorem dd_Md_deliver_22 : decode prog_9_method_17_code 22 = .ok (.iload_n 2, 1) := by decide +kernel
theorem dd_Md_deliver_23 : decode prog_9_method_17_code 23 = .ok (.laload, 1) := by decide +kernel
theorem dd_Md_deliver_24 : decode prog_9_method_17_code 24 = .ok (.lstore 4, 2) := by decide +kernel
theorem dd_Md_deliver_26 : decode prog_9_method_17_code 26 = .ok (.aload_n 0, 1) := by decide +kernel
theorem dd_Md_deliver_27 : decode prog_9_method_17_code 27 = .ok (.getfield 36, 3) := by decide +kernel
theorem dd_Md_deliver_30 : decode prog_9_method_17_code 30 = .ok (.iload_n 2, 1) := by decide +kernel
theorem dd_Md_deliver_31 : decode prog_9_method_17_code 31 = .ok (.iaload, 1) := by decide +kernel
theorem dd_Md_deliver_32 : decode prog_9_method_17_code 32 = .ok (.istore 6, 2) := by decide +kernel
theorem dd_Md_deliver_34 : decode prog_9_method_17_code 34 = .ok (.iload_n 1, 1) := by decide +kernel
theorem dd_Md_deliver_35 : decode prog_9_method_17_code 35 = .ok (.ifCond .ne 8, 3) := by decide +kernel
theorem dd_Md_deliver_38 : decode prog_9_method_17_code 38 = .ok (.aload_n 0, 1) := by decide +kernel
theorem dd_Md_deliver_39 : decode prog_9_method_17_code 39 = .ok (.iload_n 2, 1) := by decide +kernel
theorem dd_Md_deliver_40 : decode prog_9_method_17_code 40 = .ok (.invokevirtual 132, 3) := by decide +kernel
theorem dd_Md_deliver_43 : decode prog_9_method_17_code 43 = .ok (.iload_n 3, 1) := by decide +kernel
theorem dd_Md_deliver_44 : decode prog_9_method_17_code 44 = .ok (.bipush 16, 2) := by decide +kernel
theorem dd_Md_deliver_46 : decode prog_9_method_17_code 46 = .ok (.ishr, 1) := by decide +kernel
theorem dd_Md_deliver_47 : decode prog_9_method_17_code 47 = .ok (.sipush 255, 3) := by decide +kernel
theorem dd_Md_deliver_50 : decode prog_9_method_17_code 50 = .ok (.iand, 1) := by decide +kernel
theorem dd_Md_deliver_51 : decode prog_9_method_17_code 51 = .ok (.istore 7, 2) := by decide +kernel
theorem dd_Md_deliver_53 : decode prog_9_method_17_code 53 = .ok (.iload_n 3, 1) := by decide +kernel
theorem dd_Md_deliver_54 : decode prog_9_method_17_code 54 = .ok (.bipush 8, 2) := by decide +kernel
theorem dd_Md_deliver_56 : decode prog_9_method_17_code 56 = .ok (.ishr, 1) := by decide +kernel
theorem dd_Md_deliver_57 : decode prog_9_method_17_code 57 = .ok (.sipush 255, 3) := by decide +kernel
theorem dd_Md_deliver_60 : decode prog_9_method_17_code 60 = .ok (.iand, 1) := by decide +kernel
theorem dd_Md_deliver_61 : decode prog_9_method_17_code 61 = .ok (.istore 8, 2) := by decide +kernel
theorem dd_Md_deliver_63 : decode prog_9_method_17_code 63 = .ok (.iconst 0, 1) := by decide +kernel
theorem dd_Md_deliver_64 : decode prog_9_method_17_code 64 = .ok (.istore 9, 2) := by decide +kernel
theorem dd_Md_deliver_66 : decode prog_9_method_17_code 66 = .ok (.iload 9, 2) := by decide +kernel
theorem dd_Md_deliver_68 : decode prog_9_method_17_code 68 = .ok (.iconst 5, 1) := by decide +kernel
theorem dd_Md_deliver_69 : decode prog_9_method_17_code 69 = .ok (.if_icmp .ge 124, 3) := by decide +kernel
theorem dd_Md_deliver_72 : decode prog_9_method_17_code 72 = .ok (.iload 7, 2) := by decide +kernel
theorem dd_Md_deliver_74 : decode prog_9_method_17_code 74 = .ok (.sipush 238, 3) := by decide +kernel
theorem dd_Md_deliver_77 : decode prog_9_method_17_code 77 = .ok (.if_icmp .eq 11, 3) := by decide +kernel
theorem dd_Md_deliver_80 : decode prog_9_method_17_code 80 = .ok (.iload 7, 2) := by decide +kernel
theorem dd_Md_deliver_82 : decode prog_9_method_17_code 82 = .ok (.sipush 234, 3) := by decide +kernel
theorem dd_Md_deliver_85 : decode prog_9_method_17_code 85 = .ok (.if_icmp .ne 7, 3) := by decide +kernel
theorem dd_Md_deliver_88 : decode prog_9_method_17_code 88 = .ok (.iconst 1, 1) := by decide +kernel
theorem dd_Md_deliver_89 : decode prog_9_method_17_code 89 = .ok (.goto 4, 3) := by decide +kernel
theorem dd_Md_deliver_92 : decode prog_9_method_17_code 92 = .ok (.iconst 0, 1) := by decide +kernel
theorem dd_Md_deliver_93 : decode prog_9_method_17_code 93 = .ok (.istore 10, 2) := by decide +kernel
theorem dd_Md_deliver_95 : decode prog_9_method_17_code 95 = .ok (.iload 10, 2) := by decide +kernel
theorem dd_Md_deliver_97 : decode prog_9_method_17_code 97 = .ok (.ifCond .eq 21, 3) := by decide +kernel
theorem dd_Md_deliver_100 : decode prog_9_method_17_code 100 = .ok (.aload_n 0, 1) := by decide +kernel
theorem dd_Md_deliver_101 : decode prog_9_method_17_code 101 = .ok (.getfield 7, 3) := by decide +kernel
theorem dd_Md_deliver_104 : decode prog_9_method_17_code 104 = .ok (.iload 9, 2) := by decide +kernel
theorem dd_Md_deliver_106 : decode prog_9_method_17_code 106 = .ok (.iaload, 1) := by decide +kernel
theorem dd_Md_deliver_107 : decode prog_9_method_17_code 107 = .ok (.ifCond .eq 7, 3) := by decide +kernel
theorem dd_Md_deliver_110 : decode prog_9_method_17_code 110 = .ok (.iconst 1, 1) := by decide +kernel
theorem dd_Md_deliver_111 : decode prog_9_method_17_code 111 = .ok (.goto 43, 3) := by decide +kernel
theorem dd_Md_deliver_114 : decode prog_9_method_17_code 114 = .ok (.iconst 0, 1) := by decide +kernel
theorem dd_Md_deliver_115 : decode prog_9_method_17_code 115 = .ok (.goto 39, 3) := by decide +kernel
theorem dd_Md_deliver_118 : decode prog_9_method_17_code 118 = .ok (.aload_n 0, 1) := by decide +kernel
theorem dd_Md_deliver_119 : decode prog_9_method_17_code 119 = .ok (.getfield 7, 3) := by decide +kernel
theorem dd_Md_deliver_122 : decode prog_9_method_17_code 122 = .ok (.iload 9, 2) := by decide +kernel
theorem dd_Md_deliver_124 : decode prog_9_method_17_code 124 = .ok (.iaload, 1) := by decide +kernel
theorem dd_Md_deliver_125 : decode prog_9_method_17_code 125 = .ok (.iconst 2, 1) := by decide +kernel
theorem dd_Md_deliver_126 : decode prog_9_method_17_code 126 = .ok (.if_icmp .ne 27, 3) := by decide +kernel
theorem dd_Md_deliver_129 : decode prog_9_method_17_code 129 = .ok (.iload 8, 2) := by decide +kernel
theorem dd_Md_deliver_131 : decode prog_9_method_17_code 131 = .ok (.sipush 255, 3) := by decide +kernel
theorem dd_Md_deliver_134 : decode prog_9_method_17_code 134 = .ok (.if_icmp .eq 15, 3) := by decide +kernel
theorem dd_Md_deliver_137 : decode prog_9_method_17_code 137 = .ok (.iload 8, 2) := by decide +kernel
theorem dd_Md_deliver_139 : decode prog_9_method_17_code 139 = .ok (.aload_n 0, 1) := by decide +kernel
theorem dd_Md_deliver_140 : decode prog_9_method_17_code 140 = .ok (.getfield 13, 3) := by decide +kernel
theorem dd_Md_deliver_143 : decode prog_9_method_17_code 143 = .ok (.iload 9, 2) := by decide +kernel
theorem dd_Md_deliver_145 : decode prog_9_method_17_code 145 = .ok (.iaload, 1) := by decide +kernel
theorem dd_Md_deliver_146 : decode prog_9_method_17_code 146 = .ok (.if_icmp .ne 7, 3) := by decide +kernel
theorem dd_Md_deliver_149 : decode prog_9_method_17_code 149 = .ok (.iconst 1, 1) := by decide +kernel
theorem dd_Md_deliver_150 : decode prog_9_method_17_code 150 = .ok (.goto 4, 3) := by decide +kernel
theorem dd_Md_deliver_153 : decode prog_9_method_17_code 153 = .ok (.iconst 0, 1) := by decide +kernel
theorem dd_Md_deliver_154 : decode prog_9_method_17_code 154 = .ok (.istore 11, 2) := by decide +kernel
theorem dd_Md_deliver_156 : decode prog_9_method_17_code 156 = .ok (.iload 9, 2) := by decide +kernel
theorem dd_Md_deliver_158 : decode prog_9_method_17_code 158 = .ok (.iload 6, 2) := by decide +kernel
theorem dd_Md_deliver_160 : decode prog_9_method_17_code 160 = .ok (.if_icmp .eq 27, 3) := by decide +kernel
theorem dd_Md_deliver_163 : decode prog_9_method_17_code 163 = .ok (.iload 11, 2) := by decide +kernel
theorem dd_Md_deliver_165 : decode prog_9_method_17_code 165 = .ok (.ifCond .eq 22, 3) := by decide +kernel
theorem dd_Md_deliver_168 : decode prog_9_method_17_code 168 = .ok (.aload_n 0, 1) := by decide +kernel
theorem dd_Md_deliver_169 : decode prog_9_method_17_code 169 = .ok (.iload 9, 2) := by decide +kernel
theorem dd_Md_deliver_171 : decode prog_9_method_17_code 171 = .ok (.iload 6, 2) := by decide +kernel
theorem dd_Md_deliver_173 : decode prog_9_method_17_code 173 = .ok (.iload 7, 2) := by decide +kernel
theorem dd_Md_deliver_175 : decode prog_9_method_17_code 175 = .ok (.iload 8, 2) := by decide +kernel
theorem dd_Md_deliver_177 : decode prog_9_method_17_code 177 = .ok (.iload_n 3, 1) := by decide +kernel
theorem dd_Md_deliver_178 : decode prog_9_method_17_code 178 = .ok (.sipush 255, 3) := by decide +kernel
theorem dd_Md_deliver_181 : decode prog_9_method_17_code 181 = .ok (.iand, 1) := by decide +kernel
theorem dd_Md_deliver_182 : decode prog_9_method_17_code 182 = .ok (.lload 4, 2) := by decide +kernel
theorem dd_Md_deliver_184 : decode prog_9_method_17_code 184 = .ok (.invokevirtual 136, 3) := by decide +kernel
theorem dd_Md_deliver_187 : decode prog_9_method_17_code 187 = .ok (.iinc 9 1, 3) := by decide +kernel
theorem dd_Md_deliver_190 : decode prog_9_method_17_code 190 = .ok (.goto (-124), 3) := by decide +kernel
theorem dd_Md_deliver_193 : decode prog_9_method_17_code 193 = .ok (.iconst 1, 1) := by decide +kernel
theorem dd_Md_deliver_194 : decode prog_9_method_17_code 194 = .ok (.ireturn, 1) := by decide +kernel
theorem dd_Md_reach_0 : decode prog_9_method_18_code 0 = .ok (.iload_n 3, 1) := by decide +kernel
theorem dd_Md_reach_1 : decode prog_9_method_18_code 1 = .ok (.sipush 238, 3) := by decide +kernel
theorem dd_Md_reach_4 : decode prog_9_method_18_code 4 = .ok (.if_icmp .ne 16, 3) := by decide +kernel
theorem dd_Md_reach_7 : decode prog_9_method_18_code 7 = .ok (.aload_n 0, 1) := by decide +kernel
theorem dd_Md_reach_8 : decode prog_9_method_18_code 8 = .ok (.iload_n 1, 1) := by decide +kernel
theorem dd_Md_reach_9 : decode prog_9_method_18_code 9 = .ok (.iload_n 2, 1) := by decide +kernel
theorem dd_Md_reach_10 : decode prog_9_method_18_code 10 = .ok (.iload 5, 2) := by decide +kernel
theorem dd_Md_reach_12 : decode prog_9_method_18_code 12 = .ok (.lload 6, 2) := by decide +kernel
theorem dd_Md_reach_14 : decode prog_9_method_18_code 14 = .ok (.invokevirtual 140, 3) := by decide +kernel
theorem dd_Md_reach_17 : decode prog_9_method_18_code 17 = .ok (.goto 50, 3) := by decide +kernel
theorem dd_Md_reach_20 : decode prog_9_method_18_code 20 = .ok (.iload_n 3, 1) := by decide +kernel
theorem dd_Md_reach_21 : decode prog_9_method_18_code 21 = .ok (.sipush 234, 3) := by decide +kernel
theorem dd_Md_reach_24 : decode prog_9_method_18_code 24 = .ok (.if_icmp .ne 11, 3) := by decide +kernel
theorem dd_Md_reach_27 : decode prog_9_method_18_code 27 = .ok (.aload_n 0, 1) := by decide +kernel
theorem dd_Md_reach_28 : decode prog_9_method_18_code 28 = .ok (.iload_n 1, 1) := by decide +kernel
theorem dd_Md_reach_29 : decode prog_9_method_18_code 29 = .ok (.invokevirtual 144, 3) := by decide +kernel
theorem dd_Md_reach_32 : decode prog_9_method_18_code 32 = .ok (.goto 35, 3) := by decide +kernel
theorem dd_Md_reach_35 : decode prog_9_method_18_code 35 = .ok (.iload_n 3, 1) := by decide +kernel
theorem dd_Md_reach_36 : decode prog_9_method_18_code 36 = .ok (.sipush 236, 3) := by decide +kernel
theorem dd_Md_reach_39 : decode prog_9_method_18_code 39 = .ok (.if_icmp .ne 17, 3) := by decide +kernel
theorem dd_Md_reach_42 : decode prog_9_method_18_code 42 = .ok (.aload_n 0, 1) := by decide +kernel
theorem dd_Md_reach_43 : decode prog_9_method_18_code 43 = .ok (.iload_n 1, 1) := by decide +kernel
theorem dd_Md_reach_44 : decode prog_9_method_18_code 44 = .ok (.iload 4, 2) := by decide +kernel
theorem dd_Md_reach_46 : decode prog_9_method_18_code 46 = .ok (.iload 5, 2) := by decide +kernel
theorem dd_Md_reach_48 : decode prog_9_method_18_code 48 = .ok (.lload 6, 2) := by decide +kernel
theorem dd_Md_reach_50 : decode prog_9_method_18_code 50 = .ok (.invokevirtual 147, 3) := by decide +kernel
theorem dd_Md_reach_53 : decode prog_9_method_18_code 53 = .ok (.goto 14, 3) := by decide +kernel
theorem dd_Md_reach_56 : decode prog_9_method_18_code 56 = .ok (.aload_n 0, 1) := by decide +kernel
theorem dd_Md_reach_57 : decode prog_9_method_18_code 57 = .ok (.iload_n 1, 1) := by decide +kernel
theorem dd_Md_reach_58 : decode prog_9_method_18_code 58 = .ok (.iload 4, 2) := by decide +kernel
theorem dd_Md_reach_60 : decode prog_9_method_18_code 60 = .ok (.iload 5, 2) := by decide +kernel
theorem dd_Md_reach_62 : decode prog_9_method_18_code 62 = .ok (.lload 6, 2) := by decide +kernel
theorem dd_Md_reach_64 : decode prog_9_method_18_code 64 = .ok (.invokevirtual 150, 3) := by decide +kernel
theorem dd_Md_reach_67 : decode prog_9_method_18_code 67 = .ok (.return_, 1) := by decide +kernel
theorem dd_Md_start_0 : decode prog_9_method_19_code 0 = .ok (.iload_n 1, 1) := by decide +kernel
theorem dd_Md_start_1 : decode prog_9_method_19_code 1 = .ok (.ifCond .lt 30, 3) := by decide +kernel
theorem dd_Md_start_4 : decode prog_9_method_19_code 4 = .ok (.iload_n 1, 1) := by decide +kernel
theorem dd_Md_start_5 : decode prog_9_method_19_code 5 = .ok (.iconst 4, 1) := by decide +kernel
theorem dd_Md_start_6 : decode prog_9_method_19_code 6 = .ok (.if_icmp .gt 25, 3) := by decide +kernel
theorem dd_Md_start_9 : decode prog_9_method_19_code 9 = .ok (.aload_n 0, 1) := by decide +kernel
theorem dd_Md_start_10 : decode prog_9_method_19_code 10 = .ok (.getfield 7, 3) := by decide +kernel
theorem dd_Md_start_13 : decode prog_9_method_19_code 13 = .ok (.iload_n 1, 1) := by decide +kernel
theorem dd_Md_start_14 : decode prog_9_method_19_code 14 = .ok (.iaload, 1) := by decide +kernel
theorem dd_Md_start_15 : decode prog_9_method_19_code 15 = .ok (.ifCond .ne 16, 3) := by decide +kernel
theorem dd_Md_start_18 : decode prog_9_method_19_code 18 = .ok (.iload 4, 2) := by decide +kernel
theorem dd_Md_start_20 : decode prog_9_method_19_code 20 = .ok (.ifCond .lt 11, 3) := by decide +kernel
theorem dd_Md_start_23 : decode prog_9_method_19_code 23 = .ok (.iload 4, 2) := by decide +kernel
theorem dd_Md_start_25 : decode prog_9_method_19_code 25 = .ok (.sipush 253, 3) := by decide +kernel
theorem dd_Md_start_28 : decode prog_9_method_19_code 28 = .ok (.if_icmp .le 5, 3) := by decide +kernel
theorem dd_Md_start_31 : decode prog_9_method_19_code 31 = .ok (.iconst 0, 1) := by decide +kernel
theorem dd_Md_start_32 : decode prog_9_method_19_code 32 = .ok (.ireturn, 1) := by decide +kernel
theorem dd_Md_start_33 : decode prog_9_method_19_code 33 = .ok (.iconst 0, 1) := by decide +kernel
theorem dd_Md_start_34 : decode prog_9_method_19_code 34 = .ok (.istore 5, 2) := by decide +kernel
theorem dd_Md_start_36 : decode prog_9_method_19_code 36 = .ok (.iload 5, 2) := by decide +kernel
theorem dd_Md_start_38 : decode prog_9_method_19_code 38 = .ok (.iconst 5, 1) := by decide +kernel
theorem dd_Md_start_39 : decode prog_9_method_19_code 39 = .ok (.if_icmp .ge 33, 3) := by decide +kernel
theorem dd_Md_start_42 : decode prog_9_method_19_code 42 = .ok (.aload_n 0, 1) := by decide +kernel
theorem dd_Md_start_43 : decode prog_9_method_19_code 43 = .ok (.getfield 7, 3) := by decide +kernel
theorem dd_Md_start_46 : decode prog_9_method_19_code 46 = .ok (.iload 5, 2) := by decide +kernel
theorem dd_Md_start_48 : decode prog_9_method_19_code 48 = .ok (.iaload, 1) := by decide +kernel
theorem dd_Md_start_49 : decode prog_9_method_19_code 49 = .ok (.ifCond .eq 17, 3) := by decide +kernel
theorem dd_Md_start_52 : decode prog_9_method_19_code 52 = .ok (.aload_n 0, 1) := by decide +kernel
theorem dd_Md_start_53 : decode prog_9_method_19_code 53 = .ok (.getfield 16, 3) := by decide +kernel
theorem dd_Md_start_56 : decode prog_9_method_19_code 56 = .ok (.iload 5, 2) := by decide +kernel
theorem dd_Md_start_58 : decode prog_9_method_19_code 58 = .ok (.laload, 1) := by decide +kernel
theorem dd_Md_start_59 : decode prog_9_method_19_code 59 = .ok (.lload_n 2, 1) := by decide +kernel
theorem dd_Md_start_60 : decode prog_9_method_19_code 60 = .ok (.lcmp, 1) := by decide +kernel
theorem dd_Md_start_61 : decode prog_9_method_19_code 61 = .ok (.ifCond .ne 5, 3) := by decide +kernel
theorem dd_Md_start_64 : decode prog_9_method_19_code 64 = .ok (.iconst 0, 1) := by decide +kernel
theorem dd_Md_start_65 : decode prog_9_method_19_code 65 = .ok (.ireturn, 1) := by decide +kernel
theorem dd_Md_start_66 : decode prog_9_method_19_code 66 = .ok (.iinc 5 1, 3) := by decide +kernel
theorem dd_Md_start_69 : decode prog_9_method_19_code 69 = .ok (.goto (-33), 3) := by decide +kernel
theorem dd_Md_start_72 : decode prog_9_method_19_code 72 = .ok (.aload_n 0, 1) := by decide +kernel
theorem dd_Md_start_73 : decode prog_9_method_19_code 73 = .ok (.getfield 7, 3) := by decide +kernel
theorem dd_Md_start_76 : decode prog_9_method_19_code 76 = .ok (.iload_n 1, 1) := by decide +kernel
theorem dd_Md_start_77 : decode prog_9_method_19_code 77 = .ok (.iconst 1, 1) := by decide +kernel
theorem dd_Md_start_78 : decode prog_9_method_19_code 78 = .ok (.iastore, 1) := by decide +kernel
theorem dd_Md_start_79 : decode prog_9_method_19_code 79 = .ok (.aload_n 0, 1) := by decide +kernel
theorem dd_Md_start_80 : decode prog_9_method_19_code 80 = .ok (.getfield 16, 3) := by decide +kernel
theorem dd_Md_start_83 : decode prog_9_method_19_code 83 = .ok (.iload_n 1, 1) := by decide +kernel
theorem dd_Md_start_84 : decode prog_9_method_19_code 84 = .ok (.lload_n 2, 1) := by decide +kernel
theorem dd_Md_start_85 : decode prog_9_method_19_code 85 = .ok (.lastore, 1) := by decide +kernel
theorem dd_Md_start_86 : decode prog_9_method_19_code 86 = .ok (.aload_n 0, 1) := by decide +kernel
theorem dd_Md_start_87 : decode prog_9_method_19_code 87 = .ok (.getfield 13, 3) := by decide +kernel
theorem dd_Md_start_90 : decode prog_9_method_19_code 90 = .ok (.iload_n 1, 1) := by decide +kernel
theorem dd_Md_start_91 : decode prog_9_method_19_code 91 = .ok (.iload 4, 2) := by decide +kernel
theorem dd_Md_start_93 : decode prog_9_method_19_code 93 = .ok (.iastore, 1) := by decide +kernel
theorem dd_Md_start_94 : decode prog_9_method_19_code 94 = .ok (.aload_n 0, 1) := by decide +kernel
theorem dd_Md_start_95 : decode prog_9_method_19_code 95 = .ok (.getfield 24, 3) := by decide +kernel
theorem dd_Md_start_98 : decode prog_9_method_19_code 98 = .ok (.iload_n 1, 1) := by decide +kernel
theorem dd_Md_start_99 : decode prog_9_method_19_code 99 = .ok (.aload_n 0, 1) := by decide +kernel
theorem dd_Md_start_100 : decode prog_9_method_19_code 100 = .ok (.getfield 153, 3) := by decide +kernel
theorem dd_Md_start_103 : decode prog_9_method_19_code 103 = .ok (.sipush 250, 3) := by decide +kernel
theorem dd_Md_start_106 : decode prog_9_method_19_code 106 = .ok (.iadd, 1) := by decide +kernel
theorem dd_Md_start_107 : decode prog_9_method_19_code 107 = .ok (.iastore, 1) := by decide +kernel
theorem dd_Md_start_108 : decode prog_9_method_19_code 108 = .ok (.iconst 0, 1) := by decide +kernel
theorem dd_Md_start_109 : decode prog_9_method_19_code 109 = .ok (.istore 5, 2) := by decide +kernel
theorem dd_Md_start_111 : decode prog_9_method_19_code 111 = .ok (.iload 5, 2) := by decide +kernel
theorem dd_Md_start_113 : decode prog_9_method_19_code 113 = .ok (.iconst 5, 1) := by decide +kernel
theorem dd_Md_start_114 : decode prog_9_method_19_code 114 = .ok (.if_icmp .ge 21, 3) := by decide +kernel
theorem dd_Md_start_117 : decode prog_9_method_19_code 117 = .ok (.aload_n 0, 1) := by decide +kernel
theorem dd_Md_start_118 : decode prog_9_method_19_code 118 = .ok (.getfield 27, 3) := by decide +kernel
theorem dd_Md_start_121 : decode prog_9_method_19_code 121 = .ok (.iconst 5, 1) := by decide +kernel
theorem dd_Md_start_122 : decode prog_9_method_19_code 122 = .ok (.iload_n 1, 1) := by decide +kernel
theorem dd_Md_start_123 : decode prog_9_method_19_code 123 = .ok (.imul, 1) := by decide +kernel
theorem dd_Md_start_124 : decode prog_9_method_19_code 124 = .ok (.iload 5, 2) := by decide +kernel
theorem dd_Md_start_126 : decode prog_9_method_19_code 126 = .ok (.iadd, 1) := by decide +kernel
theorem dd_Md_start_127 : decode prog_9_method_19_code 127 = .ok (.iconst (-1), 1) := by decide +kernel
theorem dd_Md_start_128 : decode prog_9_method_19_code 128 = .ok (.iastore, 1) := by decide +kernel
theorem dd_Md_start_129 : decode prog_9_method_19_code 129 = .ok (.iinc 5 1, 3) := by decide +kernel
theorem dd_Md_start_132 : decode prog_9_method_19_code 132 = .ok (.goto (-21), 3) := by decide +kernel
theorem dd_Md_start_135 : decode prog_9_method_19_code 135 = .ok (.aload_n 0, 1) := by decide +kernel
theorem dd_Md_start_136 : decode prog_9_method_19_code 136 = .ok (.getfield 42, 3) := by decide +kernel
theorem dd_Md_start_139 : decode prog_9_method_19_code 139 = .ok (.iload_n 1, 1) := by decide +kernel
theorem dd_Md_start_140 : decode prog_9_method_19_code 140 = .ok (.iconst 0, 1) := by decide +kernel
theorem dd_Md_start_141 : decode prog_9_method_19_code 141 = .ok (.iastore, 1) := by decide +kernel
theorem dd_Md_start_142 : decode prog_9_method_19_code 142 = .ok (.aload_n 0, 1) := by decide +kernel
theorem dd_Md_start_143 : decode prog_9_method_19_code 143 = .ok (.getfield 96, 3) := by decide +kernel
theorem dd_Md_start_146 : decode prog_9_method_19_code 146 = .ok (.iload_n 1, 1) := by decide +kernel
theorem dd_Md_start_147 : decode prog_9_method_19_code 147 = .ok (.iconst 0, 1) := by decide +kernel
theorem dd_Md_start_148 : decode prog_9_method_19_code 148 = .ok (.iastore, 1) := by decide +kernel
theorem dd_Md_start_149 : decode prog_9_method_19_code 149 = .ok (.aload_n 0, 1) := by decide +kernel
theorem dd_Md_start_150 : decode prog_9_method_19_code 150 = .ok (.iload_n 1, 1) := by decide +kernel
theorem dd_Md_start_151 : decode prog_9_method_19_code 151 = .ok (.invokevirtual 144, 3) := by decide +kernel
theorem dd_Md_start_154 : decode prog_9_method_19_code 154 = .ok (.iconst 1, 1) := by decide +kernel
theorem dd_Md_start_155 : decode prog_9_method_19_code 155 = .ok (.ireturn, 1) := by decide +kernel
theorem dd_Md_stop_0 : decode prog_9_method_20_code 0 = .ok (.aload_n 0, 1) := by decide +kernel
theorem dd_Md_stop_1 : decode prog_9_method_20_code 1 = .ok (.iload_n 1, 1) := by decide +kernel
theorem dd_Md_stop_2 : decode prog_9_method_20_code 2 = .ok (.invokevirtual 156, 3) := by decide +kernel
theorem dd_Md_stop_5 : decode prog_9_method_20_code 5 = .ok (.ifCond .ne 5, 3) := by decide +kernel
theorem dd_Md_stop_8 : decode prog_9_method_20_code 8 = .ok (.iconst 0, 1) := by decide +kernel
theorem dd_Md_stop_9 : decode prog_9_method_20_code 9 = .ok (.ireturn, 1) := by decide +kernel
theorem dd_Md_stop_10 : decode prog_9_method_20_code 10 = .ok (.aload_n 0, 1) := by decide +kernel
theorem dd_Md_stop_11 : decode prog_9_method_20_code 11 = .ok (.getfield 7, 3) := by decide +kernel
theorem dd_Md_stop_14 : decode prog_9_method_20_code 14 = .ok (.iload_n 1, 1) := by decide +kernel
theorem dd_Md_stop_15 : decode prog_9_method_20_code 15 = .ok (.iconst 0, 1) := by decide +kernel
theorem dd_Md_stop_16 : decode prog_9_method_20_code 16 = .ok (.iastore, 1) := by decide +kernel
theorem dd_Md_stop_17 : decode prog_9_method_20_code 17 = .ok (.aload_n 0, 1) := by decide +kernel
theorem dd_Md_stop_18 : decode prog_9_method_20_code 18 = .ok (.getfield 39, 3) := by decide +kernel
theorem dd_Md_stop_21 : decode prog_9_method_20_code 21 = .ok (.iload_n 1, 1) := by decide +kernel
theorem dd_Md_stop_22 : decode prog_9_method_20_code 22 = .ok (.iconst 0, 1) := by decide +kernel
theorem dd_Md_stop_23 : decode prog_9_method_20_code 23 = .ok (.iastore, 1) := by decide +kernel
theorem dd_Md_stop_24 : decode prog_9_method_20_code 24 = .ok (.aload_n 0, 1) := by decide +kernel
theorem dd_Md_stop_25 : decode prog_9_method_20_code 25 = .ok (.getfield 63, 3) := by decide +kernel
theorem dd_Md_stop_28 : decode prog_9_method_20_code 28 = .ok (.iload_n 1, 1) := by decide +kernel
theorem dd_Md_stop_29 : decode prog_9_method_20_code 29 = .ok (.iconst 0, 1) := by decide +kernel
theorem dd_Md_stop_30 : decode prog_9_method_20_code 30 = .ok (.iastore, 1) := by decide +kernel
theorem dd_Md_stop_31 : decode prog_9_method_20_code 31 = .ok (.aload_n 0, 1) := by decide +kernel
theorem dd_Md_stop_32 : decode prog_9_method_20_code 32 = .ok (.getfield 105, 3) := by decide +kernel
theorem dd_Md_stop_35 : decode prog_9_method_20_code 35 = .ok (.iconst 1, 1) := by decide +kernel
theorem dd_Md_stop_36 : decode prog_9_method_20_code 36 = .ok (.isub, 1) := by decide +kernel
theorem dd_Md_stop_37 : decode prog_9_method_20_code 37 = .ok (.istore_n 2, 1) := by decide +kernel
theorem dd_Md_stop_38 : decode prog_9_method_20_code 38 = .ok (.iload_n 2, 1) := by decide +kernel
theorem dd_Md_stop_39 : decode prog_9_method_20_code 39 = .ok (.ifCond .lt 24, 3) := by decide +kernel
theorem dd_Md_stop_42 : decode prog_9_method_20_code 42 = .ok (.aload_n 0, 1) := by decide +kernel
theorem dd_Md_stop_43 : decode prog_9_method_20_code 43 = .ok (.getfield 36, 3) := by decide +kernel
theorem dd_Md_stop_46 : decode prog_9_method_20_code 46 = .ok (.iload_n 2, 1) := by decide +kernel
theorem dd_Md_stop_47 : decode prog_9_method_20_code 47 = .ok (.iaload, 1) := by decide +kernel
theorem dd_Md_stop_48 : decode prog_9_method_20_code 48 = .ok (.iload_n 1, 1) := by decide +kernel
theorem dd_Md_stop_49 : decode prog_9_method_20_code 49 = .ok (.if_icmp .ne 8, 3) := by decide +kernel
theorem dd_Md_stop_52 : decode prog_9_method_20_code 52 = .ok (.aload_n 0, 1) := by decide +kernel
theorem dd_Md_stop_53 : decode prog_9_method_20_code 53 = .ok (.iload_n 2, 1) := by decide +kernel
theorem dd_Md_stop_54 : decode prog_9_method_20_code 54 = .ok (.invokevirtual 132, 3) := by decide +kernel
theorem dd_Md_stop_57 : decode prog_9_method_20_code 57 = .ok (.iinc 2 (-1), 3) := by decide +kernel
theorem dd_Md_stop_60 : decode prog_9_method_20_code 60 = .ok (.goto (-22), 3) := by decide +kernel
theorem dd_Md_stop_63 : decode prog_9_method_20_code 63 = .ok (.iconst 1, 1) := by decide +kernel
theorem dd_Md_stop_64 : decode prog_9_method_20_code 64 = .ok (.ireturn, 1) := by decide +kernel
theorem dd_Md_busy_0 : decode prog_9_method_21_code 0 = .ok (.iload_n 1, 1) := by decide +kernel
theorem dd_Md_busy_1 : decode prog_9_method_21_code 1 = .ok (.ifCond .lt 18, 3) := by decide +kernel
theorem dd_Md_busy_4 : decode prog_9_method_21_code 4 = .ok (.iload_n 1, 1) := by decide +kernel
theorem dd_Md_busy_5 : decode prog_9_method_21_code 5 = .ok (.iconst 4, 1) := by decide +kernel
theorem dd_Md_busy_6 : decode prog_9_method_21_code 6 = .ok (.if_icmp .gt 13, 3) := by decide +kernel
theorem dd_Md_busy_9 : decode prog_9_method_21_code 9 = .ok (.aload_n 0, 1) := by decide +kernel
theorem dd_Md_busy_10 : decode prog_9_method_21_code 10 = .ok (.getfield 20, 3) := by decide +kernel
theorem dd_Md_busy_13 : decode prog_9_method_21_code 13 = .ok (.iload_n 1, 1) := by decide +kernel
theorem dd_Md_busy_14 : decode prog_9_method_21_code 14 = .ok (.baload, 1) := by decide +kernel
theorem dd_Md_busy_15 : decode prog_9_method_21_code 15 = .ok (.iload_n 2, 1) := by decide +kernel
theorem dd_Md_busy_16 : decode prog_9_method_21_code 16 = .ok (.if_icmp .ne 5, 3) := by decide +kernel
theorem dd_Md_busy_19 : decode prog_9_method_21_code 19 = .ok (.iconst 0, 1) := by decide +kernel
theorem dd_Md_busy_20 : decode prog_9_method_21_code 20 = .ok (.ireturn, 1) := by decide +kernel
theorem dd_Md_busy_21 : decode prog_9_method_21_code 21 = .ok (.aload_n 0, 1) := by decide +kernel
theorem dd_Md_busy_22 : decode prog_9_method_21_code 22 = .ok (.getfield 20, 3) := by decide +kernel
theorem dd_Md_busy_25 : decode prog_9_method_21_code 25 = .ok (.iload_n 1, 1) := by decide +kernel
theorem dd_Md_busy_26 : decode prog_9_method_21_code 26 = .ok (.iload_n 2, 1) := by decide +kernel
theorem dd_Md_busy_27 : decode prog_9_method_21_code 27 = .ok (.bastore, 1) := by decide +kernel
theorem dd_Md_busy_28 : decode prog_9_method_21_code 28 = .ok (.iconst 1, 1) := by decide +kernel
theorem dd_Md_busy_29 : decode prog_9_method_21_code 29 = .ok (.ireturn, 1) := by decide +kernel
theorem dd_Md_state_0 : decode prog_9_method_22_code 0 = .ok (.iload_n 1, 1) := by decide +kernel
theorem dd_Md_state_1 : decode prog_9_method_22_code 1 = .ok (.ifCond .lt 8, 3) := by decide +kernel
theorem dd_Md_state_4 : decode prog_9_method_22_code 4 = .ok (.iload_n 1, 1) := by decide +kernel
theorem dd_Md_state_5 : decode prog_9_method_22_code 5 = .ok (.iconst 4, 1) := by decide +kernel
theorem dd_Md_state_6 : decode prog_9_method_22_code 6 = .ok (.if_icmp .le 7, 3) := by decide +kernel
theorem dd_Md_state_9 : decode prog_9_method_22_code 9 = .ok (.iconst (-1), 1) := by decide +kernel
theorem dd_Md_state_10 : decode prog_9_method_22_code 10 = .ok (.goto 9, 3) := by decide +kernel
theorem dd_Md_state_13 : decode prog_9_method_22_code 13 = .ok (.aload_n 0, 1) := by decide +kernel
theorem dd_Md_state_14 : decode prog_9_method_22_code 14 = .ok (.getfield 7, 3) := by decide +kernel
theorem dd_Md_state_17 : decode prog_9_method_22_code 17 = .ok (.iload_n 1, 1) := by decide +kernel
theorem dd_Md_state_18 : decode prog_9_method_22_code 18 = .ok (.iaload, 1) := by decide +kernel
theorem dd_Md_state_19 : decode prog_9_method_22_code 19 = .ok (.ireturn, 1) := by decide +kernel
theorem dd_Md_address_0 : decode prog_9_method_23_code 0 = .ok (.aload_n 0, 1) := by decide +kernel
theorem dd_Md_address_1 : decode prog_9_method_23_code 1 = .ok (.iload_n 1, 1) := by decide +kernel
theorem dd_Md_address_2 : decode prog_9_method_23_code 2 = .ok (.invokevirtual 156, 3) := by decide +kernel
theorem dd_Md_address_5 : decode prog_9_method_23_code 5 = .ok (.ifCond .eq 11, 3) := by decide +kernel
theorem dd_Md_address_8 : decode prog_9_method_23_code 8 = .ok (.aload_n 0, 1) := by decide +kernel
theorem dd_Md_address_9 : decode prog_9_method_23_code 9 = .ok (.iload_n 1, 1) := by decide +kernel
theorem dd_Md_address_10 : decode prog_9_method_23_code 10 = .ok (.invokevirtual 112, 3) := by decide +kernel
theorem dd_Md_address_13 : decode prog_9_method_23_code 13 = .ok (.goto 4, 3) := by decide +kernel
theorem dd_Md_address_16 : decode prog_9_method_23_code 16 = .ok (.iconst (-1), 1) := by decide +kernel
theorem dd_Md_address_17 : decode prog_9_method_23_code 17 = .ok (.ireturn, 1) := by decide +kernel
theorem dd_Md_noted_0 : decode prog_9_method_24_code 0 = .ok (.aload_n 0, 1) := by decide +kernel
theorem dd_Md_noted_1 : decode prog_9_method_24_code 1 = .ok (.iload_n 1, 1) := by decide +kernel
theorem dd_Md_noted_2 : decode prog_9_method_24_code 2 = .ok (.invokevirtual 156, 3) := by decide +kernel
theorem dd_Md_noted_5 : decode prog_9_method_24_code 5 = .ok (.ifCond .eq 25, 3) := by decide +kernel
theorem dd_Md_noted_8 : decode prog_9_method_24_code 8 = .ok (.iload_n 2, 1) := by decide +kernel
theorem dd_Md_noted_9 : decode prog_9_method_24_code 9 = .ok (.ifCond .lt 21, 3) := by decide +kernel
theorem dd_Md_noted_12 : decode prog_9_method_24_code 12 = .ok (.iload_n 2, 1) := by decide +kernel
theorem dd_Md_noted_13 : decode prog_9_method_24_code 13 = .ok (.iconst 4, 1) := by decide +kernel
theorem dd_Md_noted_14 : decode prog_9_method_24_code 14 = .ok (.if_icmp .gt 16, 3) := by decide +kernel
theorem dd_Md_noted_17 : decode prog_9_method_24_code 17 = .ok (.aload_n 0, 1) := by decide +kernel
theorem dd_Md_noted_18 : decode prog_9_method_24_code 18 = .ok (.getfield 27, 3) := by decide +kernel
theorem dd_Md_noted_21 : decode prog_9_method_24_code 21 = .ok (.iconst 5, 1) := by decide +kernel
theorem dd_Md_noted_22 : decode prog_9_method_24_code 22 = .ok (.iload_n 1, 1) := by decide +kernel
theorem dd_Md_noted_23 : decode prog_9_method_24_code 23 = .ok (.imul, 1) := by decide +kernel
theorem dd_Md_noted_24 : decode prog_9_method_24_code 24 = .ok (.iload_n 2, 1) := by decide +kernel
theorem dd_Md_noted_25 : decode prog_9_method_24_code 25 = .ok (.iadd, 1) := by decide +kernel
theorem dd_Md_noted_26 : decode prog_9_method_24_code 26 = .ok (.iaload, 1) := by decide +kernel
theorem dd_Md_noted_27 : decode prog_9_method_24_code 27 = .ok (.goto 4, 3) := by decide +kernel
theorem dd_Md_noted_30 : decode prog_9_method_24_code 30 = .ok (.iconst (-1), 1) := by decide +kernel
theorem dd_Md_noted_31 : decode prog_9_method_24_code 31 = .ok (.ireturn, 1) := by decide +kernel
theorem dd_Md_request_0 : decode prog_9_method_25_code 0 = .ok (.aload_n 0, 1) := by decide +kernel
theorem dd_Md_request_1 : decode prog_9_method_25_code 1 = .ok (.iload_n 1, 1) := by decide +kernel
theorem dd_Md_request_2 : decode prog_9_method_25_code 2 = .ok (.invokevirtual 156, 3) := by decide +kernel
theorem dd_Md_request_5 : decode prog_9_method_25_code 5 = .ok (.ifCond .ne 5, 3) := by decide +kernel
theorem dd_Md_request_8 : decode prog_9_method_25_code 8 = .ok (.iconst 0, 1) := by decide +kernel
theorem dd_Md_request_9 : decode prog_9_method_25_code 9 = .ok (.ireturn, 1) := by decide +kernel
theorem dd_Md_request_10 : decode prog_9_method_25_code 10 = .ok (.aload_n 0, 1) := by decide +kernel
theorem dd_Md_request_11 : decode prog_9_method_25_code 11 = .ok (.iload_n 1, 1) := by decide +kernel
theorem dd_Md_request_12 : decode prog_9_method_25_code 12 = .ok (.bipush 6, 2) := by decide +kernel
theorem dd_Md_request_14 : decode prog_9_method_25_code 14 = .ok (.sipush 234, 3) := by decide +kernel
theorem dd_Md_request_17 : decode prog_9_method_25_code 17 = .ok (.sipush 255, 3) := by decide +kernel
theorem dd_Md_request_20 : decode prog_9_method_25_code 20 = .ok (.ldc2_w 160, 3) := by decide +kernel
theorem dd_Md_request_23 : decode prog_9_method_25_code 23 = .ok (.invokevirtual 116, 3) := by decide +kernel
theorem dd_Md_request_26 : decode prog_9_method_25_code 26 = .ok (.iconst 1, 1) := by decide +kernel
theorem dd_Md_request_27 : decode prog_9_method_25_code 27 = .ok (.ireturn, 1) := by decide +kernel
theorem dd_Md_below_0 : decode prog_9_method_26_code 0 = .ok (.lload_n 0, 1) := by decide +kernel
theorem dd_Md_below_1 : decode prog_9_method_26_code 1 = .ok (.lconst 0, 1) := by decide +kernel
theorem dd_Md_below_2 : decode prog_9_method_26_code 2 = .ok (.lcmp, 1) := by decide +kernel
theorem dd_Md_below_3 : decode prog_9_method_26_code 3 = .ok (.ifCond .ge 7, 3) := by decide +kernel
theorem dd_Md_below_6 : decode prog_9_method_26_code 6 = .ok (.iconst 1, 1) := by decide +kernel
theorem dd_Md_below_7 : decode prog_9_method_26_code 7 = .ok (.goto 4, 3) := by decide +kernel
theorem dd_Md_below_10 : decode prog_9_method_26_code 10 = .ok (.iconst 0, 1) := by decide +kernel
theorem dd_Md_below_11 : decode prog_9_method_26_code 11 = .ok (.lload_n 2, 1) := by decide +kernel
theorem dd_Md_below_12 : decode prog_9_method_26_code 12 = .ok (.lconst 0, 1) := by decide +kernel
theorem dd_Md_below_13 : decode prog_9_method_26_code 13 = .ok (.lcmp, 1) := by decide +kernel
theorem dd_Md_below_14 : decode prog_9_method_26_code 14 = .ok (.ifCond .ge 7, 3) := by decide +kernel
theorem dd_Md_below_17 : decode prog_9_method_26_code 17 = .ok (.iconst 1, 1) := by decide +kernel
theorem dd_Md_below_18 : decode prog_9_method_26_code 18 = .ok (.goto 4, 3) := by decide +kernel
theorem dd_Md_below_21 : decode prog_9_method_26_code 21 = .ok (.iconst 0, 1) := by decide +kernel
theorem dd_Md_below_22 : decode prog_9_method_26_code 22 = .ok (.if_icmp .ne 17, 3) := by decide +kernel
theorem dd_Md_below_25 : decode prog_9_method_26_code 25 = .ok (.lload_n 0, 1) := by decide +kernel
theorem dd_Md_below_26 : decode prog_9_method_26_code 26 = .ok (.lload_n 2, 1) := by decide +kernel
theorem dd_Md_below_27 : decode prog_9_method_26_code 27 = .ok (.lcmp, 1) := by decide +kernel
theorem dd_Md_below_28 : decode prog_9_method_26_code 28 = .ok (.ifCond .ge 7, 3) := by decide +kernel
theorem dd_Md_below_31 : decode prog_9_method_26_code 31 = .ok (.iconst 1, 1) := by decide +kernel
theorem dd_Md_below_32 : decode prog_9_method_26_code 32 = .ok (.goto 18, 3) := by decide +kernel
theorem dd_Md_below_35 : decode prog_9_method_26_code 35 = .ok (.iconst 0, 1) := by decide +kernel
theorem dd_Md_below_36 : decode prog_9_method_26_code 36 = .ok (.goto 14, 3) := by decide +kernel
theorem dd_Md_below_39 : decode prog_9_method_26_code 39 = .ok (.lload_n 2, 1) := by decide +kernel
theorem dd_Md_below_40 : decode prog_9_method_26_code 40 = .ok (.lconst 0, 1) := by decide +kernel
theorem dd_Md_below_41 : decode prog_9_method_26_code 41 = .ok (.lcmp, 1) := by decide +kernel
theorem dd_Md_below_42 : decode prog_9_method_26_code 42 = .ok (.ifCond .ge 7, 3) := by decide +kernel
theorem dd_Md_below_45 : decode prog_9_method_26_code 45 = .ok (.iconst 1, 1) := by decide +kernel
theorem dd_Md_below_46 : decode prog_9_method_26_code 46 = .ok (.goto 4, 3) := by decide +kernel
theorem dd_Md_below_49 : decode prog_9_method_26_code 49 = .ok (.iconst 0, 1) := by decide +kernel
theorem dd_Md_below_50 : decode prog_9_method_26_code 50 = .ok (.ireturn, 1) := by decide +kernel
theorem dd_Md_claimed_0 : decode prog_9_method_27_code 0 = .ok (.aload_n 0, 1) := by decide +kernel
theorem dd_Md_claimed_1 : decode prog_9_method_27_code 1 = .ok (.getfield 27, 3) := by decide +kernel
theorem dd_Md_claimed_4 : decode prog_9_method_27_code 4 = .ok (.iconst 5, 1) := by decide +kernel
theorem dd_Md_claimed_5 : decode prog_9_method_27_code 5 = .ok (.iload_n 1, 1) := by decide +kernel
theorem dd_Md_claimed_6 : decode prog_9_method_27_code 6 = .ok (.imul, 1) := by decide +kernel
theorem dd_Md_claimed_7 : decode prog_9_method_27_code 7 = .ok (.iload_n 2, 1) := by decide +kernel
theorem dd_Md_claimed_8 : decode prog_9_method_27_code 8 = .ok (.iadd, 1) := by decide +kernel
theorem dd_Md_claimed_9 : decode prog_9_method_27_code 9 = .ok (.iload_n 3, 1) := by decide +kernel
theorem dd_Md_claimed_10 : decode prog_9_method_27_code 10 = .ok (.iastore, 1) := by decide +kernel
theorem dd_Md_claimed_11 : decode prog_9_method_27_code 11 = .ok (.aload_n 0, 1) := by decide +kernel
theorem dd_Md_claimed_12 : decode prog_9_method_27_code 12 = .ok (.getfield 7, 3) := by decide +kernel
theorem dd_Md_claimed_15 : decode prog_9_method_27_code 15 = .ok (.iload_n 1, 1) := by decide +kernel
theorem dd_Md_claimed_16 : decode prog_9_method_27_code 16 = .ok (.iaload, 1) := by decide +kernel
theorem dd_Md_claimed_17 : decode prog_9_method_27_code 17 = .ok (.iconst 3, 1) := by decide +kernel
theorem dd_Md_claimed_18 : decode prog_9_method_27_code 18 = .ok (.if_icmp .eq 13, 3) := by decide +kernel
theorem dd_Md_claimed_21 : decode prog_9_method_27_code 21 = .ok (.iload_n 3, 1) := by decide +kernel
theorem dd_Md_claimed_22 : decode prog_9_method_27_code 22 = .ok (.aload_n 0, 1) := by decide +kernel
theorem dd_Md_claimed_23 : decode prog_9_method_27_code 23 = .ok (.getfield 13, 3) := by decide +kernel
theorem dd_Md_claimed_26 : decode prog_9_method_27_code 26 = .ok (.iload_n 1, 1) := by decide +kernel
theorem dd_Md_claimed_27 : decode prog_9_method_27_code 27 = .ok (.iaload, 1) := by decide +kernel
theorem dd_Md_claimed_28 : decode prog_9_method_27_code 28 = .ok (.if_icmp .eq 4, 3) := by decide +kernel
theorem dd_Md_claimed_31 : decode prog_9_method_27_code 31 = .ok (.return_, 1) := by decide +kernel
theorem dd_Md_claimed_32 : decode prog_9_method_27_code 32 = .ok (.aload_n 0, 1) := by decide +kernel
theorem dd_Md_claimed_33 : decode prog_9_method_27_code 33 = .ok (.getfield 16, 3) := by decide +kernel
theorem dd_Md_claimed_36 : decode prog_9_method_27_code 36 = .ok (.iload_n 1, 1) := by decide +kernel
theorem dd_Md_claimed_37 : decode prog_9_method_27_code 37 = .ok (.laload, 1) := by decide +kernel
theorem dd_Md_claimed_38 : decode prog_9_method_27_code 38 = .ok (.lload 4, 2) := by decide +kernel
theorem dd_Md_claimed_40 : decode prog_9_method_27_code 40 = .ok (.invokestatic 162, 3) := by decide +kernel
theorem dd_Md_claimed_43 : decode prog_9_method_27_code 43 = .ok (.ifCond .eq 39, 3) := by decide +kernel
theorem dd_Md_claimed_46 : decode prog_9_method_27_code 46 = .ok (.aload_n 0, 1) := by decide +kernel
theorem dd_Md_claimed_47 : decode prog_9_method_27_code 47 = .ok (.getfield 24, 3) := by decide +kernel
theorem dd_Md_claimed_50 : decode prog_9_method_27_code 50 = .ok (.iload_n 1, 1) := by decide +kernel
theorem dd_Md_claimed_51 : decode prog_9_method_27_code 51 = .ok (.aload_n 0, 1) := by decide +kernel
theorem dd_Md_claimed_52 : decode prog_9_method_27_code 52 = .ok (.getfield 7, 3) := by decide +kernel
theorem dd_Md_claimed_55 : decode prog_9_method_27_code 55 = .ok (.iload_n 1, 1) := by decide +kernel
theorem dd_Md_claimed_56 : decode prog_9_method_27_code 56 = .ok (.iaload, 1) := by decide +kernel
theorem dd_Md_claimed_57 : decode prog_9_method_27_code 57 = .ok (.iconst 1, 1) := by decide +kernel
theorem dd_Md_claimed_58 : decode prog_9_method_27_code 58 = .ok (.if_icmp .ne 14, 3) := by decide +kernel
theorem dd_Md_claimed_61 : decode prog_9_method_27_code 61 = .ok (.aload_n 0, 1) := by decide +kernel
theorem dd_Md_claimed_62 : decode prog_9_method_27_code 62 = .ok (.getfield 153, 3) := by decide +kernel
theorem dd_Md_claimed_65 : decode prog_9_method_27_code 65 = .ok (.sipush 250, 3) := by decide +kernel
theorem dd_Md_claimed_68 : decode prog_9_method_27_code 68 = .ok (.iadd, 1) := by decide +kernel
theorem dd_Md_claimed_69 : decode prog_9_method_27_code 69 = .ok (.goto 9, 3) := by decide +kernel
theorem dd_Md_claimed_72 : decode prog_9_method_27_code 72 = .ok (.aload_n 0, 1) := by decide +kernel
theorem dd_Md_claimed_73 : decode prog_9_method_27_code 73 = .ok (.getfield 24, 3) := by decide +kernel
theorem dd_Md_claimed_76 : decode prog_9_method_27_code 76 = .ok (.iload_n 1, 1) := by decide +kernel
theorem dd_Md_claimed_77 : decode prog_9_method_27_code 77 = .ok (.iaload, 1) := by decide +kernel
theorem dd_Md_claimed_78 : decode prog_9_method_27_code 78 = .ok (.iastore, 1) := by decide +kernel
theorem dd_Md_claimed_79 : decode prog_9_method_27_code 79 = .ok (.goto 117, 3) := by decide +kernel
theorem dd_Md_claimed_82 : decode prog_9_method_27_code 82 = .ok (.aload_n 0, 1) := by decide +kernel
theorem dd_Md_claimed_83 : decode prog_9_method_27_code 83 = .ok (.getfield 42, 3) := by decide +kernel
theorem dd_Md_claimed_86 : decode prog_9_method_27_code 86 = .ok (.iload_n 1, 1) := by decide +kernel
theorem dd_Md_claimed_87 : decode prog_9_method_27_code 87 = .ok (.aload_n 0, 1) := by decide +kernel
theorem dd_Md_claimed_88 : decode prog_9_method_27_code 88 = .ok (.getfield 39, 3) := by decide +kernel
theorem dd_Md_claimed_91 : decode prog_9_method_27_code 91 = .ok (.iload_n 1, 1) := by decide +kernel
theorem dd_Md_claimed_92 : decode prog_9_method_27_code 92 = .ok (.iaload, 1) := by decide +kernel
theorem dd_Md_claimed_93 : decode prog_9_method_27_code 93 = .ok (.ifCond .le 8, 3) := by decide +kernel
theorem dd_Md_claimed_96 : decode prog_9_method_27_code 96 = .ok (.bipush 13, 2) := by decide +kernel
theorem dd_Md_claimed_98 : decode prog_9_method_27_code 98 = .ok (.goto 9, 3) := by decide +kernel
theorem dd_Md_claimed_101 : decode prog_9_method_27_code 101 = .ok (.aload_n 0, 1) := by decide +kernel
theorem dd_Md_claimed_102 : decode prog_9_method_27_code 102 = .ok (.getfield 42, 3) := by decide +kernel
theorem dd_Md_claimed_105 : decode prog_9_method_27_code 105 = .ok (.iload_n 1, 1) := by decide +kernel
theorem dd_Md_claimed_106 : decode prog_9_method_27_code 106 = .ok (.iaload, 1) := by decide +kernel
theorem dd_Md_claimed_107 : decode prog_9_method_27_code 107 = .ok (.iastore, 1) := by decide +kernel
theorem dd_Md_claimed_108 : decode prog_9_method_27_code 108 = .ok (.aload_n 0, 1) := by decide +kernel
theorem dd_Md_claimed_109 : decode prog_9_method_27_code 109 = .ok (.getfield 39, 3) := by decide +kernel
theorem dd_Md_claimed_112 : decode prog_9_method_27_code 112 = .ok (.iload_n 1, 1) := by decide +kernel
theorem dd_Md_claimed_113 : decode prog_9_method_27_code 113 = .ok (.iconst 0, 1) := by decide +kernel
theorem dd_Md_claimed_114 : decode prog_9_method_27_code 114 = .ok (.iastore, 1) := by decide +kernel
theorem dd_Md_claimed_115 : decode prog_9_method_27_code 115 = .ok (.aload_n 0, 1) := by decide +kernel
theorem dd_Md_claimed_116 : decode prog_9_method_27_code 116 = .ok (.getfield 63, 3) := by decide +kernel
theorem dd_Md_claimed_119 : decode prog_9_method_27_code 119 = .ok (.iload_n 1, 1) := by decide +kernel
theorem dd_Md_claimed_120 : decode prog_9_method_27_code 120 = .ok (.iconst 0, 1) := by decide +kernel
theorem dd_Md_claimed_121 : decode prog_9_method_27_code 121 = .ok (.iastore, 1) := by decide +kernel
theorem dd_Md_claimed_122 : decode prog_9_method_27_code 122 = .ok (.aload_n 0, 1) := by decide +kernel
theorem dd_Md_claimed_123 : decode prog_9_method_27_code 123 = .ok (.getfield 16, 3) := by decide +kernel
theorem dd_Md_claimed_126 : decode prog_9_method_27_code 126 = .ok (.iload_n 1, 1) := by decide +kernel
theorem dd_Md_claimed_127 : decode prog_9_method_27_code 127 = .ok (.laload, 1) := by decide +kernel
theorem dd_Md_claimed_128 : decode prog_9_method_27_code 128 = .ok (.lconst 0, 1) := by decide +kernel
theorem dd_Md_claimed_129 : decode prog_9_method_27_code 129 = .ok (.lcmp, 1) := by decide +kernel
theorem dd_Md_claimed_130 : decode prog_9_method_27_code 130 = .ok (.ifCond .ge 11, 3) := by decide +kernel
theorem dd_Md_claimed_133 : decode prog_9_method_27_code 133 = .ok (.aload_n 0, 1) := by decide +kernel
theorem dd_Md_claimed_134 : decode prog_9_method_27_code 134 = .ok (.iload_n 1, 1) := by decide +kernel
theorem dd_Md_claimed_135 : decode prog_9_method_27_code 135 = .ok (.invokevirtual 166, 3) := by decide +kernel
theorem dd_Md_claimed_138 : decode prog_9_method_27_code 138 = .ok (.goto 4, 3) := by decide +kernel
theorem dd_Md_claimed_141 : decode prog_9_method_27_code 141 = .ok (.iconst (-1), 1) := by decide +kernel
theorem dd_Md_claimed_142 : decode prog_9_method_27_code 142 = .ok (.istore 6, 2) := by decide +kernel
theorem dd_Md_claimed_144 : decode prog_9_method_27_code 144 = .ok (.aload_n 0, 1) := by decide +kernel
theorem dd_Md_claimed_145 : decode prog_9_method_27_code 145 = .ok (.getfield 7, 3) := by decide +kernel
theorem dd_Md_claimed_148 : decode prog_9_method_27_code 148 = .ok (.iload_n 1, 1) := by decide +kernel
theorem dd_Md_claimed_149 : decode prog_9_method_27_code 149 = .ok (.iload 6, 2) := by decide +kernel
theorem dd_Md_claimed_151 : decode prog_9_method_27_code 151 = .ok (.ifCond .ge 7, 3) := by decide +kernel
theorem dd_Md_claimed_154 : decode prog_9_method_27_code 154 = .ok (.iconst 3, 1) := by decide +kernel
theorem dd_Md_claimed_155 : decode prog_9_method_27_code 155 = .ok (.goto 4, 3) := by decide +kernel
theorem dd_Md_claimed_158 : decode prog_9_method_27_code 158 = .ok (.iconst 1, 1) := by decide +kernel
theorem dd_Md_claimed_159 : decode prog_9_method_27_code 159 = .ok (.iastore, 1) := by decide +kernel
theorem dd_Md_claimed_160 : decode prog_9_method_27_code 160 = .ok (.aload_n 0, 1) := by decide +kernel
theorem dd_Md_claimed_161 : decode prog_9_method_27_code 161 = .ok (.getfield 13, 3) := by decide +kernel
theorem dd_Md_claimed_164 : decode prog_9_method_27_code 164 = .ok (.iload_n 1, 1) := by decide +kernel
theorem dd_Md_claimed_165 : decode prog_9_method_27_code 165 = .ok (.iload 6, 2) := by decide +kernel
theorem dd_Md_claimed_167 : decode prog_9_method_27_code 167 = .ok (.ifCond .ge 12, 3) := by decide +kernel
theorem dd_Md_claimed_170 : decode prog_9_method_27_code 170 = .ok (.aload_n 0, 1) := by decide +kernel
theorem dd_Md_claimed_171 : decode prog_9_method_27_code 171 = .ok (.getfield 13, 3) := by decide +kernel
theorem dd_Md_claimed_174 : decode prog_9_method_27_code 174 = .ok (.iload_n 1, 1) := by decide +kernel
theorem dd_Md_claimed_175 : decode prog_9_method_27_code 175 = .ok (.iaload, 1) := by decide +kernel
theorem dd_Md_claimed_176 : decode prog_9_method_27_code 176 = .ok (.goto 5, 3) := by decide +kernel
theorem dd_Md_claimed_179 : decode prog_9_method_27_code 179 = .ok (.iload 6, 2) := by decide +kernel
theorem dd_Md_claimed_181 : decode prog_9_method_27_code 181 = .ok (.iastore, 1) := by decide +kernel
theorem dd_Md_claimed_182 : decode prog_9_method_27_code 182 = .ok (.aload_n 0, 1) := by decide +kernel
theorem dd_Md_claimed_183 : decode prog_9_method_27_code 183 = .ok (.getfield 24, 3) := by decide +kernel
theorem dd_Md_claimed_186 : decode prog_9_method_27_code 186 = .ok (.iload_n 1, 1) := by decide +kernel
theorem dd_Md_claimed_187 : decode prog_9_method_27_code 187 = .ok (.aload_n 0, 1) := by decide +kernel
theorem dd_Md_claimed_188 : decode prog_9_method_27_code 188 = .ok (.getfield 153, 3) := by decide +kernel
theorem dd_Md_claimed_191 : decode prog_9_method_27_code 191 = .ok (.sipush 250, 3) := by decide +kernel
theorem dd_Md_claimed_194 : decode prog_9_method_27_code 194 = .ok (.iadd, 1) := by decide +kernel
theorem dd_Md_claimed_195 : decode prog_9_method_27_code 195 = .ok (.iastore, 1) := by decide +kernel
theorem dd_Md_claimed_196 : decode prog_9_method_27_code 196 = .ok (.aload_n 0, 1) := by decide +kernel
theorem dd_Md_claimed_197 : decode prog_9_method_27_code 197 = .ok (.iload_n 1, 1) := by decide +kernel
theorem dd_Md_claimed_198 : decode prog_9_method_27_code 198 = .ok (.invokevirtual 144, 3) := by decide +kernel
theorem dd_Md_claimed_201 : decode prog_9_method_27_code 201 = .ok (.return_, 1) := by decide +kernel
theorem dd_Md_spare_0 : decode prog_9_method_28_code 0 = .ok (.sipush 128, 3) := by decide +kernel
theorem dd_Md_spare_3 : decode prog_9_method_28_code 3 = .ok (.istore_n 2, 1) := by decide +kernel
theorem dd_Md_spare_4 : decode prog_9_method_28_code 4 = .ok (.iload_n 2, 1) := by decide +kernel
theorem dd_Md_spare_5 : decode prog_9_method_28_code 5 = .ok (.sipush 132, 3) := by decide +kernel
theorem dd_Md_spare_8 : decode prog_9_method_28_code 8 = .ok (.if_icmp .ge 57, 3) := by decide +kernel
theorem dd_Md_spare_11 : decode prog_9_method_28_code 11 = .ok (.iconst 0, 1) := by decide +kernel
theorem dd_Md_spare_12 : decode prog_9_method_28_code 12 = .ok (.istore_n 3, 1) := by decide +kernel
theorem dd_Md_spare_13 : decode prog_9_method_28_code 13 = .ok (.iconst 0, 1) := by decide +kernel
theorem dd_Md_spare_14 : decode prog_9_method_28_code 14 = .ok (.istore 4, 2) := by decide +kernel
theorem dd_Md_spare_16 : decode prog_9_method_28_code 16 = .ok (.iload 4, 2) := by decide +kernel
theorem dd_Md_spare_18 : decode prog_9_method_28_code 18 = .ok (.iconst 5, 1) := by decide +kernel
theorem dd_Md_spare_19 : decode prog_9_method_28_code 19 = .ok (.if_icmp .ge 34, 3) := by decide +kernel
theorem dd_Md_spare_22 : decode prog_9_method_28_code 22 = .ok (.iload_n 3, 1) := by decide +kernel
theorem dd_Md_spare_23 : decode prog_9_method_28_code 23 = .ok (.ifCond .ne 18, 3) := by decide +kernel
theorem dd_Md_spare_26 : decode prog_9_method_28_code 26 = .ok (.aload_n 0, 1) := by decide +kernel
theorem dd_Md_spare_27 : decode prog_9_method_28_code 27 = .ok (.getfield 27, 3) := by decide +kernel
theorem dd_Md_spare_30 : decode prog_9_method_28_code 30 = .ok (.iconst 5, 1) := by decide +kernel
theorem dd_Md_spare_31 : decode prog_9_method_28_code 31 = .ok (.iload_n 1, 1) := by decide +kernel
theorem dd_Md_spare_32 : decode prog_9_method_28_code 32 = .ok (.imul, 1) := by decide +kernel
theorem dd_Md_spare_33 : decode prog_9_method_28_code 33 = .ok (.iload 4, 2) := by decide +kernel
theorem dd_Md_spare_35 : decode prog_9_method_28_code 35 = .ok (.iadd, 1) := by decide +kernel
theorem dd_Md_spare_36 : decode prog_9_method_28_code 36 = .ok (.iaload, 1) := by decide +kernel
theorem dd_Md_spare_37 : decode prog_9_method_28_code 37 = .ok (.iload_n 2, 1) := by decide +kernel
theorem dd_Md_spare_38 : decode prog_9_method_28_code 38 = .ok (.if_icmp .ne 7, 3) := by decide +kernel
theorem dd_Md_spare_41 : decode prog_9_method_28_code 41 = .ok (.iconst 1, 1) := by decide +kernel
theorem dd_Md_spare_42 : decode prog_9_method_28_code 42 = .ok (.goto 4, 3) := by decide +kernel
theorem dd_Md_spare_45 : decode prog_9_method_28_code 45 = .ok (.iconst 0, 1) := by decide +kernel
theorem dd_Md_spare_46 : decode prog_9_method_28_code 46 = .ok (.istore_n 3, 1) := by decide +kernel
theorem dd_Md_spare_47 : decode prog_9_method_28_code 47 = .ok (.iinc 4 1, 3) := by decide +kernel
theorem dd_Md_spare_50 : decode prog_9_method_28_code 50 = .ok (.goto (-34), 3) := by decide +kernel
theorem dd_Md_spare_53 : decode prog_9_method_28_code 53 = .ok (.iload_n 3, 1) := by decide +kernel
theorem dd_Md_spare_54 : decode prog_9_method_28_code 54 = .ok (.ifCond .ne 5, 3) := by decide +kernel
theorem dd_Md_spare_57 : decode prog_9_method_28_code 57 = .ok (.iload_n 2, 1) := by decide +kernel
theorem dd_Md_spare_58 : decode prog_9_method_28_code 58 = .ok (.ireturn, 1) := by decide +kernel
theorem dd_Md_spare_59 : decode prog_9_method_28_code 59 = .ok (.iinc 2 1, 3) := by decide +kernel
theorem dd_Md_spare_62 : decode prog_9_method_28_code 62 = .ok (.goto (-58), 3) := by decide +kernel
theorem dd_Md_spare_65 : decode prog_9_method_28_code 65 = .ok (.iconst (-1), 1) := by decide +kernel
theorem dd_Md_spare_66 : decode prog_9_method_28_code 66 = .ok (.ireturn, 1) := by decide +kernel
theorem dd_Md_send_0 : decode prog_9_method_29_code 0 = .ok (.aload_n 0, 1) := by decide +kernel
theorem dd_Md_send_1 : decode prog_9_method_29_code 1 = .ok (.iload_n 1, 1) := by decide +kernel
theorem dd_Md_send_2 : decode prog_9_method_29_code 2 = .ok (.invokevirtual 156, 3) := by decide +kernel
theorem dd_Md_send_5 : decode prog_9_method_29_code 5 = .ok (.ifCond .eq 50, 3) := by decide +kernel
theorem dd_Md_send_8 : decode prog_9_method_29_code 8 = .ok (.aload_n 0, 1) := by decide +kernel
theorem dd_Md_send_9 : decode prog_9_method_29_code 9 = .ok (.getfield 7, 3) := by decide +kernel
theorem dd_Md_send_12 : decode prog_9_method_29_code 12 = .ok (.iload_n 1, 1) := by decide +kernel
theorem dd_Md_send_13 : decode prog_9_method_29_code 13 = .ok (.iaload, 1) := by decide +kernel
theorem dd_Md_send_14 : decode prog_9_method_29_code 14 = .ok (.iconst 2, 1) := by decide +kernel
theorem dd_Md_send_15 : decode prog_9_method_29_code 15 = .ok (.if_icmp .ne 40, 3) := by decide +kernel
theorem dd_Md_send_18 : decode prog_9_method_29_code 18 = .ok (.aload_n 0, 1) := by decide +kernel
theorem dd_Md_send_19 : decode prog_9_method_29_code 19 = .ok (.getfield 39, 3) := by decide +kernel
theorem dd_Md_send_22 : decode prog_9_method_29_code 22 = .ok (.iload_n 1, 1) := by decide +kernel
theorem dd_Md_send_23 : decode prog_9_method_29_code 23 = .ok (.iaload, 1) := by decide +kernel
theorem dd_Md_send_24 : decode prog_9_method_29_code 24 = .ok (.ifCond .gt 31, 3) := by decide +kernel
theorem dd_Md_send_27 : decode prog_9_method_29_code 27 = .ok (.iload_n 2, 1) := by decide +kernel
theorem dd_Md_send_28 : decode prog_9_method_29_code 28 = .ok (.ifCond .lt 27, 3) := by decide +kernel
theorem dd_Md_send_31 : decode prog_9_method_29_code 31 = .ok (.iload_n 2, 1) := by decide +kernel
theorem dd_Md_send_32 : decode prog_9_method_29_code 32 = .ok (.sipush 254, 3) := by decide +kernel
theorem dd_Md_send_35 : decode prog_9_method_29_code 35 = .ok (.if_icmp .eq 20, 3) := by decide +kernel
theorem dd_Md_send_38 : decode prog_9_method_29_code 38 = .ok (.iload_n 2, 1) := by decide +kernel
theorem dd_Md_send_39 : decode prog_9_method_29_code 39 = .ok (.sipush 255, 3) := by decide +kernel
theorem dd_Md_send_42 : decode prog_9_method_29_code 42 = .ok (.if_icmp .gt 13, 3) := by decide +kernel
theorem dd_Md_send_45 : decode prog_9_method_29_code 45 = .ok (.iload_n 2, 1) := by decide +kernel
theorem dd_Md_send_46 : decode prog_9_method_29_code 46 = .ok (.aload_n 0, 1) := by decide +kernel
theorem dd_Md_send_47 : decode prog_9_method_29_code 47 = .ok (.getfield 13, 3) := by decide +kernel
theorem dd_Md_send_50 : decode prog_9_method_29_code 50 = .ok (.iload_n 1, 1) := by decide +kernel
theorem dd_Md_send_51 : decode prog_9_method_29_code 51 = .ok (.iaload, 1) := by decide +kernel
theorem dd_Md_send_52 : decode prog_9_method_29_code 52 = .ok (.if_icmp .ne 5, 3) := by decide +kernel
theorem dd_Md_send_55 : decode prog_9_method_29_code 55 = .ok (.iconst 0, 1) := by decide +kernel
theorem dd_Md_send_56 : decode prog_9_method_29_code 56 = .ok (.ireturn, 1) := by decide +kernel
theorem dd_Md_send_57 : decode prog_9_method_29_code 57 = .ok (.iload_n 3, 1) := by decide +kernel
theorem dd_Md_send_58 : decode prog_9_method_29_code 58 = .ok (.ifCond .lt 23, 3) := by decide +kernel
theorem dd_Md_send_61 : decode prog_9_method_29_code 61 = .ok (.iload_n 3, 1) := by decide +kernel
theorem dd_Md_send_62 : decode prog_9_method_29_code 62 = .ok (.ldc 169, 2) := by decide +kernel
theorem dd_Md_send_64 : decode prog_9_method_29_code 64 = .ok (.if_icmp .gt 17, 3) := by decide +kernel
theorem dd_Md_send_67 : decode prog_9_method_29_code 67 = .ok (.iload 4, 2) := by decide +kernel
theorem dd_Md_send_69 : decode prog_9_method_29_code 69 = .ok (.bipush 9, 2) := by decide +kernel
theorem dd_Md_send_71 : decode prog_9_method_29_code 71 = .ok (.if_icmp .lt 10, 3) := by decide +kernel
theorem dd_Md_send_74 : decode prog_9_method_29_code 74 = .ok (.iload 4, 2) := by decide +kernel
theorem dd_Md_send_76 : decode prog_9_method_29_code 76 = .ok (.bipush 49, 2) := by decide +kernel
theorem dd_Md_send_78 : decode prog_9_method_29_code 78 = .ok (.if_icmp .le 5, 3) := by decide +kernel
theorem dd_Md_send_81 : decode prog_9_method_29_code 81 = .ok (.iconst 0, 1) := by decide +kernel
theorem dd_Md_send_82 : decode prog_9_method_29_code 82 = .ok (.ireturn, 1) := by decide +kernel
theorem dd_Md_send_83 : decode prog_9_method_29_code 83 = .ok (.iload_n 2, 1) := by decide +kernel
theorem dd_Md_send_84 : decode prog_9_method_29_code 84 = .ok (.sipush 255, 3) := by decide +kernel
theorem dd_Md_send_87 : decode prog_9_method_29_code 87 = .ok (.if_icmp .ne 7, 3) := by decide +kernel
theorem dd_Md_send_90 : decode prog_9_method_29_code 90 = .ok (.iconst 1, 1) := by decide +kernel
theorem dd_Md_send_91 : decode prog_9_method_29_code 91 = .ok (.goto 4, 3) := by decide +kernel
theorem dd_Md_send_94 : decode prog_9_method_29_code 94 = .ok (.iconst 0, 1) := by decide +kernel
theorem dd_Md_send_95 : decode prog_9_method_29_code 95 = .ok (.istore 7, 2) := by decide +kernel
theorem dd_Md_send_97 : decode prog_9_method_29_code 97 = .ok (.aload_n 0, 1) := by decide +kernel
theorem dd_Md_send_98 : decode prog_9_method_29_code 98 = .ok (.getfield 39, 3) := by decide +kernel
theorem dd_Md_send_101 : decode prog_9_method_29_code 101 = .ok (.iload_n 1, 1) := by decide +kernel
theorem dd_Md_send_102 : decode prog_9_method_29_code 102 = .ok (.iload 7, 2) := by decide +kernel
theorem dd_Md_send_104 : decode prog_9_method_29_code 104 = .ok (.ifCond .eq 7, 3) := by decide +kernel
theorem dd_Md_send_107 : decode prog_9_method_29_code 107 = .ok (.iconst 1, 1) := by decide +kernel
theorem dd_Md_send_108 : decode prog_9_method_29_code 108 = .ok (.goto 4, 3) := by decide +kernel
theorem dd_Md_send_111 : decode prog_9_method_29_code 111 = .ok (.iconst 2, 1) := by decide +kernel
theorem dd_Md_send_112 : decode prog_9_method_29_code 112 = .ok (.iastore, 1) := by decide +kernel
theorem dd_Md_send_113 : decode prog_9_method_29_code 113 = .ok (.aload_n 0, 1) := by decide +kernel
theorem dd_Md_send_114 : decode prog_9_method_29_code 114 = .ok (.getfield 45, 3) := by decide +kernel
theorem dd_Md_send_117 : decode prog_9_method_29_code 117 = .ok (.iload_n 1, 1) := by decide +kernel
theorem dd_Md_send_118 : decode prog_9_method_29_code 118 = .ok (.iload_n 2, 1) := by decide +kernel
theorem dd_Md_send_119 : decode prog_9_method_29_code 119 = .ok (.iastore, 1) := by decide +kernel
theorem dd_Md_send_120 : decode prog_9_method_29_code 120 = .ok (.aload_n 0, 1) := by decide +kernel
theorem dd_Md_send_121 : decode prog_9_method_29_code 121 = .ok (.getfield 48, 3) := by decide +kernel
theorem dd_Md_send_124 : decode prog_9_method_29_code 124 = .ok (.iload_n 1, 1) := by decide +kernel
theorem dd_Md_send_125 : decode prog_9_method_29_code 125 = .ok (.iload_n 3, 1) := by decide +kernel
theorem dd_Md_send_126 : decode prog_9_method_29_code 126 = .ok (.iastore, 1) := by decide +kernel
theorem dd_Md_send_127 : decode prog_9_method_29_code 127 = .ok (.aload_n 0, 1) := by decide +kernel
theorem dd_Md_send_128 : decode prog_9_method_29_code 128 = .ok (.getfield 51, 3) := by decide +kernel
theorem dd_Md_send_131 : decode prog_9_method_29_code 131 = .ok (.iload_n 1, 1) := by decide +kernel
theorem dd_Md_send_132 : decode prog_9_method_29_code 132 = .ok (.iload 4, 2) := by decide +kernel
theorem dd_Md_send_134 : decode prog_9_method_29_code 134 = .ok (.iastore, 1) := by decide +kernel
theorem dd_Md_send_135 : decode prog_9_method_29_code 135 = .ok (.aload_n 0, 1) := by decide +kernel
theorem dd_Md_send_136 : decode prog_9_method_29_code 136 = .ok (.getfield 54, 3) := by decide +kernel
theorem dd_Md_send_139 : decode prog_9_method_29_code 139 = .ok (.iload_n 1, 1) := by decide +kernel
theorem dd_Md_send_140 : decode prog_9_method_29_code 140 = .ok (.lload 5, 2) := by decide +kernel
theorem dd_Md_send_142 : decode prog_9_method_29_code 142 = .ok (.lastore, 1) := by decide +kernel
theorem dd_Md_send_143 : decode prog_9_method_29_code 143 = .ok (.aload_n 0, 1) := by decide +kernel
theorem dd_Md_send_144 : decode prog_9_method_29_code 144 = .ok (.getfield 57, 3) := by decide +kernel
theorem dd_Md_send_147 : decode prog_9_method_29_code 147 = .ok (.iload_n 1, 1) := by decide +kernel
theorem dd_Md_send_148 : decode prog_9_method_29_code 148 = .ok (.iconst 1, 1) := by decide +kernel
theorem dd_Md_send_149 : decode prog_9_method_29_code 149 = .ok (.iastore, 1) := by decide +kernel
theorem dd_Md_send_150 : decode prog_9_method_29_code 150 = .ok (.aload_n 0, 1) := by decide +kernel
theorem dd_Md_send_151 : decode prog_9_method_29_code 151 = .ok (.getfield 60, 3) := by decide +kernel
theorem dd_Md_send_154 : decode prog_9_method_29_code 154 = .ok (.iload_n 1, 1) := by decide +kernel
theorem dd_Md_send_155 : decode prog_9_method_29_code 155 = .ok (.aload_n 0, 1) := by decide +kernel
theorem dd_Md_send_156 : decode prog_9_method_29_code 156 = .ok (.getfield 153, 3) := by decide +kernel
theorem dd_Md_send_159 : decode prog_9_method_29_code 159 = .ok (.iload 7, 2) := by decide +kernel
theorem dd_Md_send_161 : decode prog_9_method_29_code 161 = .ok (.ifCond .eq 8, 3) := by decide +kernel
theorem dd_Md_send_164 : decode prog_9_method_29_code 164 = .ok (.bipush 50, 2) := by decide +kernel
theorem dd_Md_send_166 : decode prog_9_method_29_code 166 = .ok (.goto 6, 3) := by decide +kernel
theorem dd_Md_send_169 : decode prog_9_method_29_code 169 = .ok (.sipush 1250, 3) := by decide +kernel
theorem dd_Md_send_172 : decode prog_9_method_29_code 172 = .ok (.iadd, 1) := by decide +kernel
theorem dd_Md_send_173 : decode prog_9_method_29_code 173 = .ok (.iastore, 1) := by decide +kernel
theorem dd_Md_send_174 : decode prog_9_method_29_code 174 = .ok (.aload_n 0, 1) := by decide +kernel
theorem dd_Md_send_175 : decode prog_9_method_29_code 175 = .ok (.iload_n 1, 1) := by decide +kernel
theorem dd_Md_send_176 : decode prog_9_method_29_code 176 = .ok (.iload_n 2, 1) := by decide +kernel
theorem dd_Md_send_177 : decode prog_9_method_29_code 177 = .ok (.iload 7, 2) := by decide +kernel
theorem dd_Md_send_179 : decode prog_9_method_29_code 179 = .ok (.ifCond .eq 8, 3) := by decide +kernel
theorem dd_Md_send_182 : decode prog_9_method_29_code 182 = .ok (.bipush 32, 2) := by decide +kernel
theorem dd_Md_send_184 : decode prog_9_method_29_code 184 = .ok (.goto 5, 3) := by decide +kernel
theorem dd_Md_send_187 : decode prog_9_method_29_code 187 = .ok (.bipush 16, 2) := by decide +kernel
theorem dd_Md_send_189 : decode prog_9_method_29_code 189 = .ok (.iload 4, 2) := by decide +kernel
theorem dd_Md_send_191 : decode prog_9_method_29_code 191 = .ok (.sipush 255, 3) := by decide +kernel
theorem dd_Md_send_194 : decode prog_9_method_29_code 194 = .ok (.iand, 1) := by decide +kernel
theorem dd_Md_send_195 : decode prog_9_method_29_code 195 = .ok (.iload 4, 2) := by decide +kernel
theorem dd_Md_send_197 : decode prog_9_method_29_code 197 = .ok (.bipush 8, 2) := by decide +kernel
theorem dd_Md_send_199 : decode prog_9_method_29_code 199 = .ok (.ishr, 1) := by decide +kernel
theorem dd_Md_send_200 : decode prog_9_method_29_code 200 = .ok (.iload 4, 2) := by decide +kernel
theorem dd_Md_send_202 : decode prog_9_method_29_code 202 = .ok (.invokestatic 170, 3) := by decide +kernel
theorem dd_Md_send_205 : decode prog_9_method_29_code 205 = .ok (.iload_n 3, 1) := by decide +kernel
theorem dd_Md_send_206 : decode prog_9_method_29_code 206 = .ok (.invokevirtual 122, 3) := by decide +kernel
theorem dd_Md_send_209 : decode prog_9_method_29_code 209 = .ok (.iconst 1, 1) := by decide +kernel
theorem dd_Md_send_210 : decode prog_9_method_29_code 210 = .ok (.ireturn, 1) := by decide +kernel
theorem dd_Md_finish_0 : decode prog_9_method_30_code 0 = .ok (.aload_n 0, 1) := by decide +kernel
theorem dd_Md_finish_1 : decode prog_9_method_30_code 1 = .ok (.getfield 39, 3) := by decide +kernel
theorem dd_Md_finish_4 : decode prog_9_method_30_code 4 = .ok (.iload_n 1, 1) := by decide +kernel
theorem dd_Md_finish_5 : decode prog_9_method_30_code 5 = .ok (.iconst 0, 1) := by decide +kernel
theorem dd_Md_finish_6 : decode prog_9_method_30_code 6 = .ok (.iastore, 1) := by decide +kernel
theorem dd_Md_finish_7 : decode prog_9_method_30_code 7 = .ok (.aload_n 0, 1) := by decide +kernel
theorem dd_Md_finish_8 : decode prog_9_method_30_code 8 = .ok (.getfield 42, 3) := by decide +kernel
theorem dd_Md_finish_11 : decode prog_9_method_30_code 11 = .ok (.iload_n 1, 1) := by decide +kernel
theorem dd_Md_finish_12 : decode prog_9_method_30_code 12 = .ok (.iload_n 2, 1) := by decide +kernel
theorem dd_Md_finish_13 : decode prog_9_method_30_code 13 = .ok (.iastore, 1) := by decide +kernel
theorem dd_Md_finish_14 : decode prog_9_method_30_code 14 = .ok (.return_, 1) := by decide +kernel
theorem dd_Md_control_0 : decode prog_9_method_31_code 0 = .ok (.lload 4, 2) := by decide +kernel
theorem dd_Md_control_2 : decode prog_9_method_31_code 2 = .ok (.ldc2_w 126, 3) := by decide +kernel
theorem dd_Md_control_5 : decode prog_9_method_31_code 5 = .ok (.land, 1) := by decide +kernel
theorem dd_Md_control_6 : decode prog_9_method_31_code 6 = .ok (.l2i, 1) := by decide +kernel
theorem dd_Md_control_7 : decode prog_9_method_31_code 7 = .ok (.istore 6, 2) := by decide +kernel
theorem dd_Md_control_9 : decode prog_9_method_31_code 9 = .ok (.lload 4, 2) := by decide +kernel
theorem dd_Md_control_11 : decode prog_9_method_31_code 11 = .ok (.bipush 8, 2) := by decide +kernel
theorem dd_Md_control_13 : decode prog_9_method_31_code 13 = .ok (.lshr, 1) := by decide +kernel
theorem dd_Md_control_14 : decode prog_9_method_31_code 14 = .ok (.ldc2_w 126, 3) := by decide +kernel
theorem dd_Md_control_17 : decode prog_9_method_31_code 17 = .ok (.land, 1) := by decide +kernel
theorem dd_Md_control_18 : decode prog_9_method_31_code 18 = .ok (.l2i, 1) := by decide +kernel
theorem dd_Md_control_19 : decode prog_9_method_31_code 19 = .ok (.istore 7, 2) := by decide +kernel
theorem dd_Md_control_21 : decode prog_9_method_31_code 21 = .ok (.lload 4, 2) := by decide +kernel
theorem dd_Md_control_23 : decode prog_9_method_31_code 23 = .ok (.bipush 16, 2) := by decide +kernel
theorem dd_Md_control_25 : decode prog_9_method_31_code 25 = .ok (.lshr, 1) := by decide +kernel
theorem dd_Md_control_26 : decode prog_9_method_31_code 26 = .ok (.ldc2_w 126, 3) := by decide +kernel
theorem dd_Md_control_29 : decode prog_9_method_31_code 29 = .ok (.land, 1) := by decide +kernel
theorem dd_Md_control_30 : decode prog_9_method_31_code 30 = .ok (.l2i, 1) := by decide +kernel
theorem dd_Md_control_31 : decode prog_9_method_31_code 31 = .ok (.istore 8, 2) := by decide +kernel
theorem dd_Md_control_33 : decode prog_9_method_31_code 33 = .ok (.lload 4, 2) := by decide +kernel
theorem dd_Md_control_35 : decode prog_9_method_31_code 35 = .ok (.bipush 40, 2) := by decide +kernel
theorem dd_Md_control_37 : decode prog_9_method_31_code 37 = .ok (.lshr, 1) := by decide +kernel
theorem dd_Md_control_38 : decode prog_9_method_31_code 38 = .ok (.ldc2_w 173, 3) := by decide +kernel
theorem dd_Md_control_41 : decode prog_9_method_31_code 41 = .ok (.land, 1) := by decide +kernel
theorem dd_Md_control_42 : decode prog_9_method_31_code 42 = .ok (.l2i, 1) := by decide +kernel
theorem dd_Md_control_43 : decode prog_9_method_31_code 43 = .ok (.istore 9, 2) := by decide +kernel
theorem dd_Md_control_45 : decode prog_9_method_31_code 45 = .ok (.aload_n 0, 1) := by decide +kernel
