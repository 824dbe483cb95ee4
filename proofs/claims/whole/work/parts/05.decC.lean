theorem d_Mo_init_0 : decode b_Mo_init 0 = .ok (.aload_n 0, 1) := by decide +kernel
theorem d_Mo_init_1 : decode b_Mo_init 1 = .ok (.invokespecial 1, 3) := by decide +kernel
theorem d_Mo_init_4 : decode b_Mo_init 4 = .ok (.aload_n 0, 1) := by decide +kernel
theorem d_Mo_init_5 : decode b_Mo_init 5 = .ok (.bipush 32, 2) := by decide +kernel
theorem d_Mo_init_7 : decode b_Mo_init 7 = .ok (.newarray .int, 2) := by decide +kernel
theorem d_Mo_init_9 : decode b_Mo_init 9 = .ok (.putfield 7, 3) := by decide +kernel
theorem d_Mo_init_12 : decode b_Mo_init 12 = .ok (.aload_n 0, 1) := by decide +kernel
theorem d_Mo_init_13 : decode b_Mo_init 13 = .ok (.bipush 32, 2) := by decide +kernel
theorem d_Mo_init_15 : decode b_Mo_init 15 = .ok (.newarray .int, 2) := by decide +kernel
theorem d_Mo_init_17 : decode b_Mo_init 17 = .ok (.putfield 13, 3) := by decide +kernel
theorem d_Mo_init_20 : decode b_Mo_init 20 = .ok (.aload_n 0, 1) := by decide +kernel
theorem d_Mo_init_21 : decode b_Mo_init 21 = .ok (.bipush 32, 2) := by decide +kernel
theorem d_Mo_init_23 : decode b_Mo_init 23 = .ok (.newarray .int, 2) := by decide +kernel
theorem d_Mo_init_25 : decode b_Mo_init 25 = .ok (.putfield 16, 3) := by decide +kernel
theorem d_Mo_init_28 : decode b_Mo_init 28 = .ok (.aload_n 0, 1) := by decide +kernel
theorem d_Mo_init_29 : decode b_Mo_init 29 = .ok (.bipush 32, 2) := by decide +kernel
theorem d_Mo_init_31 : decode b_Mo_init 31 = .ok (.newarray .int, 2) := by decide +kernel
theorem d_Mo_init_33 : decode b_Mo_init 33 = .ok (.putfield 19, 3) := by decide +kernel
theorem d_Mo_init_36 : decode b_Mo_init 36 = .ok (.aload_n 0, 1) := by decide +kernel
theorem d_Mo_init_37 : decode b_Mo_init 37 = .ok (.bipush 6, 2) := by decide +kernel
theorem d_Mo_init_39 : decode b_Mo_init 39 = .ok (.newarray .int, 2) := by decide +kernel
theorem d_Mo_init_41 : decode b_Mo_init 41 = .ok (.putfield 22, 3) := by decide +kernel
theorem d_Mo_init_44 : decode b_Mo_init 44 = .ok (.aload_n 0, 1) := by decide +kernel
theorem d_Mo_init_45 : decode b_Mo_init 45 = .ok (.bipush 6, 2) := by decide +kernel
theorem d_Mo_init_47 : decode b_Mo_init 47 = .ok (.newarray .int, 2) := by decide +kernel
theorem d_Mo_init_49 : decode b_Mo_init 49 = .ok (.putfield 25, 3) := by decide +kernel
theorem d_Mo_init_52 : decode b_Mo_init 52 = .ok (.aload_n 0, 1) := by decide +kernel
theorem d_Mo_init_53 : decode b_Mo_init 53 = .ok (.bipush 6, 2) := by decide +kernel
theorem d_Mo_init_55 : decode b_Mo_init 55 = .ok (.newarray .int, 2) := by decide +kernel
theorem d_Mo_init_57 : decode b_Mo_init 57 = .ok (.putfield 28, 3) := by decide +kernel
theorem d_Mo_init_60 : decode b_Mo_init 60 = .ok (.aload_n 0, 1) := by decide +kernel
theorem d_Mo_init_61 : decode b_Mo_init 61 = .ok (.bipush 6, 2) := by decide +kernel
theorem d_Mo_init_63 : decode b_Mo_init 63 = .ok (.newarray .int, 2) := by decide +kernel
theorem d_Mo_init_65 : decode b_Mo_init 65 = .ok (.putfield 31, 3) := by decide +kernel
theorem d_Mo_init_68 : decode b_Mo_init 68 = .ok (.aload_n 0, 1) := by decide +kernel
theorem d_Mo_init_69 : decode b_Mo_init 69 = .ok (.bipush 6, 2) := by decide +kernel
theorem d_Mo_init_71 : decode b_Mo_init 71 = .ok (.newarray .int, 2) := by decide +kernel
theorem d_Mo_init_73 : decode b_Mo_init 73 = .ok (.putfield 34, 3) := by decide +kernel
theorem d_Mo_init_76 : decode b_Mo_init 76 = .ok (.aload_n 0, 1) := by decide +kernel
theorem d_Mo_init_77 : decode b_Mo_init 77 = .ok (.bipush 6, 2) := by decide +kernel
theorem d_Mo_init_79 : decode b_Mo_init 79 = .ok (.newarray .int, 2) := by decide +kernel
theorem d_Mo_init_81 : decode b_Mo_init 81 = .ok (.putfield 37, 3) := by decide +kernel
theorem d_Mo_init_84 : decode b_Mo_init 84 = .ok (.aload_n 0, 1) := by decide +kernel
theorem d_Mo_init_85 : decode b_Mo_init 85 = .ok (.bipush 6, 2) := by decide +kernel
theorem d_Mo_init_87 : decode b_Mo_init 87 = .ok (.newarray .int, 2) := by decide +kernel
theorem d_Mo_init_89 : decode b_Mo_init 89 = .ok (.putfield 40, 3) := by decide +kernel
theorem d_Mo_init_92 : decode b_Mo_init 92 = .ok (.aload_n 0, 1) := by decide +kernel
theorem d_Mo_init_93 : decode b_Mo_init 93 = .ok (.bipush 6, 2) := by decide +kernel
theorem d_Mo_init_95 : decode b_Mo_init 95 = .ok (.newarray .int, 2) := by decide +kernel
theorem d_Mo_init_97 : decode b_Mo_init 97 = .ok (.putfield 43, 3) := by decide +kernel
theorem d_Mo_init_100 : decode b_Mo_init 100 = .ok (.aload_n 0, 1) := by decide +kernel
theorem d_Mo_init_101 : decode b_Mo_init 101 = .ok (.bipush 6, 2) := by decide +kernel
theorem d_Mo_init_103 : decode b_Mo_init 103 = .ok (.newarray .int, 2) := by decide +kernel
theorem d_Mo_init_105 : decode b_Mo_init 105 = .ok (.putfield 46, 3) := by decide +kernel
theorem d_Mo_init_108 : decode b_Mo_init 108 = .ok (.aload_n 0, 1) := by decide +kernel
theorem d_Mo_init_109 : decode b_Mo_init 109 = .ok (.bipush 6, 2) := by decide +kernel
theorem d_Mo_init_111 : decode b_Mo_init 111 = .ok (.newarray .int, 2) := by decide +kernel
theorem d_Mo_init_113 : decode b_Mo_init 113 = .ok (.putfield 49, 3) := by decide +kernel
theorem d_Mo_init_116 : decode b_Mo_init 116 = .ok (.aload_n 0, 1) := by decide +kernel
theorem d_Mo_init_117 : decode b_Mo_init 117 = .ok (.bipush 24, 2) := by decide +kernel
theorem d_Mo_init_119 : decode b_Mo_init 119 = .ok (.newarray .int, 2) := by decide +kernel
theorem d_Mo_init_121 : decode b_Mo_init 121 = .ok (.putfield 52, 3) := by decide +kernel
theorem d_Mo_init_124 : decode b_Mo_init 124 = .ok (.aload_n 0, 1) := by decide +kernel
theorem d_Mo_init_125 : decode b_Mo_init 125 = .ok (.bipush 24, 2) := by decide +kernel
theorem d_Mo_init_127 : decode b_Mo_init 127 = .ok (.newarray .int, 2) := by decide +kernel
theorem d_Mo_init_129 : decode b_Mo_init 129 = .ok (.putfield 55, 3) := by decide +kernel
theorem d_Mo_init_132 : decode b_Mo_init 132 = .ok (.aload_n 0, 1) := by decide +kernel
theorem d_Mo_init_133 : decode b_Mo_init 133 = .ok (.bipush 96, 2) := by decide +kernel
theorem d_Mo_init_135 : decode b_Mo_init 135 = .ok (.newarray .int, 2) := by decide +kernel
theorem d_Mo_init_137 : decode b_Mo_init 137 = .ok (.putfield 58, 3) := by decide +kernel
theorem d_Mo_init_140 : decode b_Mo_init 140 = .ok (.aload_n 0, 1) := by decide +kernel
theorem d_Mo_init_141 : decode b_Mo_init 141 = .ok (.bipush 12, 2) := by decide +kernel
theorem d_Mo_init_143 : decode b_Mo_init 143 = .ok (.newarray .boolean, 2) := by decide +kernel
theorem d_Mo_init_145 : decode b_Mo_init 145 = .ok (.putfield 61, 3) := by decide +kernel
theorem d_Mo_init_148 : decode b_Mo_init 148 = .ok (.aload_n 0, 1) := by decide +kernel
theorem d_Mo_init_149 : decode b_Mo_init 149 = .ok (.bipush 84, 2) := by decide +kernel
theorem d_Mo_init_151 : decode b_Mo_init 151 = .ok (.newarray .int, 2) := by decide +kernel
theorem d_Mo_init_153 : decode b_Mo_init 153 = .ok (.putfield 65, 3) := by decide +kernel
theorem d_Mo_init_156 : decode b_Mo_init 156 = .ok (.aload_n 0, 1) := by decide +kernel
theorem d_Mo_init_157 : decode b_Mo_init 157 = .ok (.bipush 14, 2) := by decide +kernel
theorem d_Mo_init_159 : decode b_Mo_init 159 = .ok (.newarray .int, 2) := by decide +kernel
theorem d_Mo_init_161 : decode b_Mo_init 161 = .ok (.putfield 68, 3) := by decide +kernel
theorem d_Mo_init_164 : decode b_Mo_init 164 = .ok (.aload_n 0, 1) := by decide +kernel
theorem d_Mo_init_165 : decode b_Mo_init 165 = .ok (.bipush 8, 2) := by decide +kernel
theorem d_Mo_init_167 : decode b_Mo_init 167 = .ok (.newarray .int, 2) := by decide +kernel
theorem d_Mo_init_169 : decode b_Mo_init 169 = .ok (.putfield 71, 3) := by decide +kernel
theorem d_Mo_init_172 : decode b_Mo_init 172 = .ok (.aload_n 0, 1) := by decide +kernel
theorem d_Mo_init_173 : decode b_Mo_init 173 = .ok (.iconst 4, 1) := by decide +kernel
theorem d_Mo_init_174 : decode b_Mo_init 174 = .ok (.newarray .int, 2) := by decide +kernel
theorem d_Mo_init_176 : decode b_Mo_init 176 = .ok (.putfield 74, 3) := by decide +kernel
theorem d_Mo_init_179 : decode b_Mo_init 179 = .ok (.aload_n 0, 1) := by decide +kernel
theorem d_Mo_init_180 : decode b_Mo_init 180 = .ok (.iconst 4, 1) := by decide +kernel
theorem d_Mo_init_181 : decode b_Mo_init 181 = .ok (.newarray .int, 2) := by decide +kernel
theorem d_Mo_init_183 : decode b_Mo_init 183 = .ok (.putfield 77, 3) := by decide +kernel
theorem d_Mo_init_186 : decode b_Mo_init 186 = .ok (.aload_n 0, 1) := by decide +kernel
theorem d_Mo_init_187 : decode b_Mo_init 187 = .ok (.iconst 2, 1) := by decide +kernel
theorem d_Mo_init_188 : decode b_Mo_init 188 = .ok (.newarray .int, 2) := by decide +kernel
theorem d_Mo_init_190 : decode b_Mo_init 190 = .ok (.putfield 80, 3) := by decide +kernel
theorem d_Mo_init_193 : decode b_Mo_init 193 = .ok (.aload_n 0, 1) := by decide +kernel
theorem d_Mo_init_194 : decode b_Mo_init 194 = .ok (.iconst 2, 1) := by decide +kernel
theorem d_Mo_init_195 : decode b_Mo_init 195 = .ok (.newarray .int, 2) := by decide +kernel
theorem d_Mo_init_197 : decode b_Mo_init 197 = .ok (.putfield 83, 3) := by decide +kernel
theorem d_Mo_init_200 : decode b_Mo_init 200 = .ok (.iconst 0, 1) := by decide +kernel
theorem d_Mo_init_201 : decode b_Mo_init 201 = .ok (.istore_n 1, 1) := by decide +kernel
theorem d_Mo_init_202 : decode b_Mo_init 202 = .ok (.iload_n 1, 1) := by decide +kernel
theorem d_Mo_init_203 : decode b_Mo_init 203 = .ok (.bipush 6, 2) := by decide +kernel
theorem d_Mo_init_205 : decode b_Mo_init 205 = .ok (.if_icmp .ge 16, 3) := by decide +kernel
theorem d_Mo_init_208 : decode b_Mo_init 208 = .ok (.aload_n 0, 1) := by decide +kernel
theorem d_Mo_init_209 : decode b_Mo_init 209 = .ok (.getfield 22, 3) := by decide +kernel
theorem d_Mo_init_212 : decode b_Mo_init 212 = .ok (.iload_n 1, 1) := by decide +kernel
theorem d_Mo_init_213 : decode b_Mo_init 213 = .ok (.iconst (-1), 1) := by decide +kernel
theorem d_Mo_init_214 : decode b_Mo_init 214 = .ok (.iastore, 1) := by decide +kernel
theorem d_Mo_init_215 : decode b_Mo_init 215 = .ok (.iinc 1 1, 3) := by decide +kernel
theorem d_Mo_init_218 : decode b_Mo_init 218 = .ok (.goto (-16), 3) := by decide +kernel
theorem d_Mo_init_221 : decode b_Mo_init 221 = .ok (.iconst 0, 1) := by decide +kernel
theorem d_Mo_init_222 : decode b_Mo_init 222 = .ok (.istore_n 1, 1) := by decide +kernel
theorem d_Mo_init_223 : decode b_Mo_init 223 = .ok (.iload_n 1, 1) := by decide +kernel
theorem d_Mo_init_224 : decode b_Mo_init 224 = .ok (.iconst 4, 1) := by decide +kernel
theorem d_Mo_init_225 : decode b_Mo_init 225 = .ok (.if_icmp .ge 16, 3) := by decide +kernel
theorem d_Mo_init_228 : decode b_Mo_init 228 = .ok (.aload_n 0, 1) := by decide +kernel
theorem d_Mo_init_229 : decode b_Mo_init 229 = .ok (.getfield 77, 3) := by decide +kernel
theorem d_Mo_init_232 : decode b_Mo_init 232 = .ok (.iload_n 1, 1) := by decide +kernel
theorem d_Mo_init_233 : decode b_Mo_init 233 = .ok (.iconst (-1), 1) := by decide +kernel
theorem d_Mo_init_234 : decode b_Mo_init 234 = .ok (.iastore, 1) := by decide +kernel
theorem d_Mo_init_235 : decode b_Mo_init 235 = .ok (.iinc 1 1, 3) := by decide +kernel
theorem d_Mo_init_238 : decode b_Mo_init 238 = .ok (.goto (-15), 3) := by decide +kernel
theorem d_Mo_init_241 : decode b_Mo_init 241 = .ok (.aload_n 0, 1) := by decide +kernel
theorem d_Mo_init_242 : decode b_Mo_init 242 = .ok (.getfield 80, 3) := by decide +kernel
theorem d_Mo_init_245 : decode b_Mo_init 245 = .ok (.iconst 0, 1) := by decide +kernel
theorem d_Mo_init_246 : decode b_Mo_init 246 = .ok (.iconst (-1), 1) := by decide +kernel
theorem d_Mo_init_247 : decode b_Mo_init 247 = .ok (.iastore, 1) := by decide +kernel
theorem d_Mo_init_248 : decode b_Mo_init 248 = .ok (.aload_n 0, 1) := by decide +kernel
theorem d_Mo_init_249 : decode b_Mo_init 249 = .ok (.getfield 80, 3) := by decide +kernel
theorem d_Mo_init_252 : decode b_Mo_init 252 = .ok (.iconst 1, 1) := by decide +kernel
theorem d_Mo_init_253 : decode b_Mo_init 253 = .ok (.iconst (-1), 1) := by decide +kernel
theorem d_Mo_init_254 : decode b_Mo_init 254 = .ok (.iastore, 1) := by decide +kernel
theorem d_Mo_init_255 : decode b_Mo_init 255 = .ok (.aload_n 0, 1) := by decide +kernel
theorem d_Mo_init_256 : decode b_Mo_init 256 = .ok (.iconst 0, 1) := by decide +kernel
theorem d_Mo_init_257 : decode b_Mo_init 257 = .ok (.iconst 0, 1) := by decide +kernel
theorem d_Mo_init_258 : decode b_Mo_init 258 = .ok (.bipush 12, 2) := by decide +kernel
theorem d_Mo_init_260 : decode b_Mo_init 260 = .ok (.iconst (-1), 1) := by decide +kernel
theorem d_Mo_init_261 : decode b_Mo_init 261 = .ok (.invokevirtual 86, 3) := by decide +kernel
theorem d_Mo_init_264 : decode b_Mo_init 264 = .ok (.return_, 1) := by decide +kernel
theorem d_Mo_thrown_0 : decode b_Mo_thrown 0 = .ok (.aload_n 0, 1) := by decide +kernel
theorem d_Mo_thrown_1 : decode b_Mo_thrown 1 = .ok (.getfield 90, 3) := by decide +kernel
theorem d_Mo_thrown_4 : decode b_Mo_thrown 4 = .ok (.ireturn, 1) := by decide +kernel
theorem d_Mo_add_0 : decode b_Mo_add 0 = .ok (.aload_n 0, 1) := by decide +kernel
theorem d_Mo_add_1 : decode b_Mo_add 1 = .ok (.getfield 65, 3) := by decide +kernel
theorem d_Mo_add_4 : decode b_Mo_add 4 = .ok (.iload_n 1, 1) := by decide +kernel
theorem d_Mo_add_5 : decode b_Mo_add 5 = .ok (.bipush 6, 2) := by decide +kernel
theorem d_Mo_add_7 : decode b_Mo_add 7 = .ok (.imul, 1) := by decide +kernel
theorem d_Mo_add_8 : decode b_Mo_add 8 = .ok (.aload_n 0, 1) := by decide +kernel
theorem d_Mo_add_9 : decode b_Mo_add 9 = .ok (.getfield 68, 3) := by decide +kernel
theorem d_Mo_add_12 : decode b_Mo_add 12 = .ok (.iload_n 1, 1) := by decide +kernel
theorem d_Mo_add_13 : decode b_Mo_add 13 = .ok (.iaload, 1) := by decide +kernel
theorem d_Mo_add_14 : decode b_Mo_add 14 = .ok (.iadd, 1) := by decide +kernel
theorem d_Mo_add_15 : decode b_Mo_add 15 = .ok (.iload_n 2, 1) := by decide +kernel
theorem d_Mo_add_16 : decode b_Mo_add 16 = .ok (.iastore, 1) := by decide +kernel
theorem d_Mo_add_17 : decode b_Mo_add 17 = .ok (.aload_n 0, 1) := by decide +kernel
theorem d_Mo_add_18 : decode b_Mo_add 18 = .ok (.getfield 68, 3) := by decide +kernel
theorem d_Mo_add_21 : decode b_Mo_add 21 = .ok (.iload_n 1, 1) := by decide +kernel
theorem d_Mo_add_22 : decode b_Mo_add 22 = .ok (.dup2, 1) := by decide +kernel
theorem d_Mo_add_23 : decode b_Mo_add 23 = .ok (.iaload, 1) := by decide +kernel
theorem d_Mo_add_24 : decode b_Mo_add 24 = .ok (.iconst 1, 1) := by decide +kernel
theorem d_Mo_add_25 : decode b_Mo_add 25 = .ok (.iadd, 1) := by decide +kernel
theorem d_Mo_add_26 : decode b_Mo_add 26 = .ok (.iastore, 1) := by decide +kernel
theorem d_Mo_add_27 : decode b_Mo_add 27 = .ok (.return_, 1) := by decide +kernel
theorem d_Mo_take_0 : decode b_Mo_take 0 = .ok (.aload_n 0, 1) := by decide +kernel
theorem d_Mo_take_1 : decode b_Mo_take 1 = .ok (.getfield 65, 3) := by decide +kernel
theorem d_Mo_take_4 : decode b_Mo_take 4 = .ok (.iload_n 1, 1) := by decide +kernel
theorem d_Mo_take_5 : decode b_Mo_take 5 = .ok (.bipush 6, 2) := by decide +kernel
theorem d_Mo_take_7 : decode b_Mo_take 7 = .ok (.imul, 1) := by decide +kernel
theorem d_Mo_take_8 : decode b_Mo_take 8 = .ok (.iaload, 1) := by decide +kernel
theorem d_Mo_take_9 : decode b_Mo_take 9 = .ok (.istore_n 2, 1) := by decide +kernel
theorem d_Mo_take_10 : decode b_Mo_take 10 = .ok (.aload_n 0, 1) := by decide +kernel
theorem d_Mo_take_11 : decode b_Mo_take 11 = .ok (.getfield 68, 3) := by decide +kernel
theorem d_Mo_take_14 : decode b_Mo_take 14 = .ok (.iload_n 1, 1) := by decide +kernel
theorem d_Mo_take_15 : decode b_Mo_take 15 = .ok (.dup2, 1) := by decide +kernel
theorem d_Mo_take_16 : decode b_Mo_take 16 = .ok (.iaload, 1) := by decide +kernel
theorem d_Mo_take_17 : decode b_Mo_take 17 = .ok (.iconst 1, 1) := by decide +kernel
theorem d_Mo_take_18 : decode b_Mo_take 18 = .ok (.isub, 1) := by decide +kernel
theorem d_Mo_take_19 : decode b_Mo_take 19 = .ok (.iastore, 1) := by decide +kernel
theorem d_Mo_take_20 : decode b_Mo_take 20 = .ok (.iconst 0, 1) := by decide +kernel
theorem d_Mo_take_21 : decode b_Mo_take 21 = .ok (.istore_n 3, 1) := by decide +kernel
theorem d_Mo_take_22 : decode b_Mo_take 22 = .ok (.iload_n 3, 1) := by decide +kernel
theorem d_Mo_take_23 : decode b_Mo_take 23 = .ok (.aload_n 0, 1) := by decide +kernel
theorem d_Mo_take_24 : decode b_Mo_take 24 = .ok (.getfield 68, 3) := by decide +kernel
theorem d_Mo_take_27 : decode b_Mo_take 27 = .ok (.iload_n 1, 1) := by decide +kernel
theorem d_Mo_take_28 : decode b_Mo_take 28 = .ok (.iaload, 1) := by decide +kernel
theorem d_Mo_take_29 : decode b_Mo_take 29 = .ok (.if_icmp .ge 33, 3) := by decide +kernel
theorem d_Mo_take_32 : decode b_Mo_take 32 = .ok (.aload_n 0, 1) := by decide +kernel
theorem d_Mo_take_33 : decode b_Mo_take 33 = .ok (.getfield 65, 3) := by decide +kernel
theorem d_Mo_take_36 : decode b_Mo_take 36 = .ok (.iload_n 1, 1) := by decide +kernel
theorem d_Mo_take_37 : decode b_Mo_take 37 = .ok (.bipush 6, 2) := by decide +kernel
theorem d_Mo_take_39 : decode b_Mo_take 39 = .ok (.imul, 1) := by decide +kernel
theorem d_Mo_take_40 : decode b_Mo_take 40 = .ok (.iload_n 3, 1) := by decide +kernel
theorem d_Mo_take_41 : decode b_Mo_take 41 = .ok (.iadd, 1) := by decide +kernel
theorem d_Mo_take_42 : decode b_Mo_take 42 = .ok (.aload_n 0, 1) := by decide +kernel
theorem d_Mo_take_43 : decode b_Mo_take 43 = .ok (.getfield 65, 3) := by decide +kernel
theorem d_Mo_take_46 : decode b_Mo_take 46 = .ok (.iload_n 1, 1) := by decide +kernel
theorem d_Mo_take_47 : decode b_Mo_take 47 = .ok (.bipush 6, 2) := by decide +kernel
theorem d_Mo_take_49 : decode b_Mo_take 49 = .ok (.imul, 1) := by decide +kernel
theorem d_Mo_take_50 : decode b_Mo_take 50 = .ok (.iload_n 3, 1) := by decide +kernel
theorem d_Mo_take_51 : decode b_Mo_take 51 = .ok (.iadd, 1) := by decide +kernel
theorem d_Mo_take_52 : decode b_Mo_take 52 = .ok (.iconst 1, 1) := by decide +kernel
theorem d_Mo_take_53 : decode b_Mo_take 53 = .ok (.iadd, 1) := by decide +kernel
theorem d_Mo_take_54 : decode b_Mo_take 54 = .ok (.iaload, 1) := by decide +kernel
theorem d_Mo_take_55 : decode b_Mo_take 55 = .ok (.iastore, 1) := by decide +kernel
theorem d_Mo_take_56 : decode b_Mo_take 56 = .ok (.iinc 3 1, 3) := by decide +kernel
theorem d_Mo_take_59 : decode b_Mo_take 59 = .ok (.goto (-37), 3) := by decide +kernel
theorem d_Mo_take_62 : decode b_Mo_take 62 = .ok (.iload_n 2, 1) := by decide +kernel
theorem d_Mo_take_63 : decode b_Mo_take 63 = .ok (.ireturn, 1) := by decide +kernel
theorem d_Mo_wake_0 : decode b_Mo_wake 0 = .ok (.aload_n 0, 1) := by decide +kernel
theorem d_Mo_wake_1 : decode b_Mo_wake 1 = .ok (.getfield 22, 3) := by decide +kernel
theorem d_Mo_wake_4 : decode b_Mo_wake 4 = .ok (.iload_n 1, 1) := by decide +kernel
theorem d_Mo_wake_5 : decode b_Mo_wake 5 = .ok (.iconst 0, 1) := by decide +kernel
theorem d_Mo_wake_6 : decode b_Mo_wake 6 = .ok (.iastore, 1) := by decide +kernel
theorem d_Mo_wake_7 : decode b_Mo_wake 7 = .ok (.aload_n 0, 1) := by decide +kernel
theorem d_Mo_wake_8 : decode b_Mo_wake 8 = .ok (.iload_n 1, 1) := by decide +kernel
theorem d_Mo_wake_9 : decode b_Mo_wake 9 = .ok (.iconst 2, 1) := by decide +kernel
theorem d_Mo_wake_10 : decode b_Mo_wake 10 = .ok (.irem, 1) := by decide +kernel
theorem d_Mo_wake_11 : decode b_Mo_wake 11 = .ok (.iload_n 1, 1) := by decide +kernel
theorem d_Mo_wake_12 : decode b_Mo_wake 12 = .ok (.invokevirtual 94, 3) := by decide +kernel
theorem d_Mo_wake_15 : decode b_Mo_wake 15 = .ok (.return_, 1) := by decide +kernel
theorem d_Mo_begin_0 : decode b_Mo_begin 0 = .ok (.aload_n 0, 1) := by decide +kernel
theorem d_Mo_begin_1 : decode b_Mo_begin 1 = .ok (.getfield 25, 3) := by decide +kernel
theorem d_Mo_begin_4 : decode b_Mo_begin 4 = .ok (.iload_n 1, 1) := by decide +kernel
theorem d_Mo_begin_5 : decode b_Mo_begin 5 = .ok (.iload_n 2, 1) := by decide +kernel
theorem d_Mo_begin_6 : decode b_Mo_begin 6 = .ok (.iastore, 1) := by decide +kernel
theorem d_Mo_begin_7 : decode b_Mo_begin 7 = .ok (.aload_n 0, 1) := by decide +kernel
theorem d_Mo_begin_8 : decode b_Mo_begin 8 = .ok (.getfield 31, 3) := by decide +kernel
theorem d_Mo_begin_11 : decode b_Mo_begin 11 = .ok (.iload_n 1, 1) := by decide +kernel
theorem d_Mo_begin_12 : decode b_Mo_begin 12 = .ok (.iload_n 3, 1) := by decide +kernel
theorem d_Mo_begin_13 : decode b_Mo_begin 13 = .ok (.iastore, 1) := by decide +kernel
theorem d_Mo_begin_14 : decode b_Mo_begin 14 = .ok (.aload_n 0, 1) := by decide +kernel
theorem d_Mo_begin_15 : decode b_Mo_begin 15 = .ok (.getfield 40, 3) := by decide +kernel
theorem d_Mo_begin_18 : decode b_Mo_begin 18 = .ok (.iload_n 1, 1) := by decide +kernel
theorem d_Mo_begin_19 : decode b_Mo_begin 19 = .ok (.iload 4, 2) := by decide +kernel
theorem d_Mo_begin_21 : decode b_Mo_begin 21 = .ok (.iastore, 1) := by decide +kernel
theorem d_Mo_begin_22 : decode b_Mo_begin 22 = .ok (.aload_n 0, 1) := by decide +kernel
theorem d_Mo_begin_23 : decode b_Mo_begin 23 = .ok (.getfield 28, 3) := by decide +kernel
theorem d_Mo_begin_26 : decode b_Mo_begin 26 = .ok (.iload_n 1, 1) := by decide +kernel
theorem d_Mo_begin_27 : decode b_Mo_begin 27 = .ok (.iconst (-1), 1) := by decide +kernel
theorem d_Mo_begin_28 : decode b_Mo_begin 28 = .ok (.iastore, 1) := by decide +kernel
theorem d_Mo_begin_29 : decode b_Mo_begin 29 = .ok (.aload_n 0, 1) := by decide +kernel
theorem d_Mo_begin_30 : decode b_Mo_begin 30 = .ok (.getfield 34, 3) := by decide +kernel
theorem d_Mo_begin_33 : decode b_Mo_begin 33 = .ok (.iload_n 1, 1) := by decide +kernel
theorem d_Mo_begin_34 : decode b_Mo_begin 34 = .ok (.iconst 0, 1) := by decide +kernel
theorem d_Mo_begin_35 : decode b_Mo_begin 35 = .ok (.iastore, 1) := by decide +kernel
theorem d_Mo_begin_36 : decode b_Mo_begin 36 = .ok (.aload_n 0, 1) := by decide +kernel
theorem d_Mo_begin_37 : decode b_Mo_begin 37 = .ok (.getfield 37, 3) := by decide +kernel
theorem d_Mo_begin_40 : decode b_Mo_begin 40 = .ok (.iload_n 1, 1) := by decide +kernel
theorem d_Mo_begin_41 : decode b_Mo_begin 41 = .ok (.iconst 0, 1) := by decide +kernel
theorem d_Mo_begin_42 : decode b_Mo_begin 42 = .ok (.iastore, 1) := by decide +kernel
theorem d_Mo_begin_43 : decode b_Mo_begin 43 = .ok (.aload_n 0, 1) := by decide +kernel
theorem d_Mo_begin_44 : decode b_Mo_begin 44 = .ok (.getfield 43, 3) := by decide +kernel
theorem d_Mo_begin_47 : decode b_Mo_begin 47 = .ok (.iload_n 1, 1) := by decide +kernel
theorem d_Mo_begin_48 : decode b_Mo_begin 48 = .ok (.iconst 0, 1) := by decide +kernel
theorem d_Mo_begin_49 : decode b_Mo_begin 49 = .ok (.iastore, 1) := by decide +kernel
theorem d_Mo_begin_50 : decode b_Mo_begin 50 = .ok (.aload_n 0, 1) := by decide +kernel
theorem d_Mo_begin_51 : decode b_Mo_begin 51 = .ok (.getfield 46, 3) := by decide +kernel
theorem d_Mo_begin_54 : decode b_Mo_begin 54 = .ok (.iload_n 1, 1) := by decide +kernel
theorem d_Mo_begin_55 : decode b_Mo_begin 55 = .ok (.iconst 0, 1) := by decide +kernel
theorem d_Mo_begin_56 : decode b_Mo_begin 56 = .ok (.iastore, 1) := by decide +kernel
theorem d_Mo_begin_57 : decode b_Mo_begin 57 = .ok (.iconst 0, 1) := by decide +kernel
theorem d_Mo_begin_58 : decode b_Mo_begin 58 = .ok (.istore 5, 2) := by decide +kernel
theorem d_Mo_begin_60 : decode b_Mo_begin 60 = .ok (.iload 5, 2) := by decide +kernel
theorem d_Mo_begin_62 : decode b_Mo_begin 62 = .ok (.iconst 4, 1) := by decide +kernel
theorem d_Mo_begin_63 : decode b_Mo_begin 63 = .ok (.if_icmp .ge 33, 3) := by decide +kernel
theorem d_Mo_begin_66 : decode b_Mo_begin 66 = .ok (.aload_n 0, 1) := by decide +kernel
theorem d_Mo_begin_67 : decode b_Mo_begin 67 = .ok (.getfield 52, 3) := by decide +kernel
theorem d_Mo_begin_70 : decode b_Mo_begin 70 = .ok (.iload_n 1, 1) := by decide +kernel
theorem d_Mo_begin_71 : decode b_Mo_begin 71 = .ok (.iconst 4, 1) := by decide +kernel
theorem d_Mo_begin_72 : decode b_Mo_begin 72 = .ok (.imul, 1) := by decide +kernel
theorem d_Mo_begin_73 : decode b_Mo_begin 73 = .ok (.iload 5, 2) := by decide +kernel
theorem d_Mo_begin_75 : decode b_Mo_begin 75 = .ok (.iadd, 1) := by decide +kernel
theorem d_Mo_begin_76 : decode b_Mo_begin 76 = .ok (.iconst 0, 1) := by decide +kernel
theorem d_Mo_begin_77 : decode b_Mo_begin 77 = .ok (.iastore, 1) := by decide +kernel
theorem d_Mo_begin_78 : decode b_Mo_begin 78 = .ok (.aload_n 0, 1) := by decide +kernel
theorem d_Mo_begin_79 : decode b_Mo_begin 79 = .ok (.getfield 55, 3) := by decide +kernel
theorem d_Mo_begin_82 : decode b_Mo_begin 82 = .ok (.iload_n 1, 1) := by decide +kernel
theorem d_Mo_begin_83 : decode b_Mo_begin 83 = .ok (.iconst 4, 1) := by decide +kernel
theorem d_Mo_begin_84 : decode b_Mo_begin 84 = .ok (.imul, 1) := by decide +kernel
theorem d_Mo_begin_85 : decode b_Mo_begin 85 = .ok (.iload 5, 2) := by decide +kernel
theorem d_Mo_begin_87 : decode b_Mo_begin 87 = .ok (.iadd, 1) := by decide +kernel
theorem d_Mo_begin_88 : decode b_Mo_begin 88 = .ok (.iconst (-1), 1) := by decide +kernel
theorem d_Mo_begin_89 : decode b_Mo_begin 89 = .ok (.iastore, 1) := by decide +kernel
theorem d_Mo_begin_90 : decode b_Mo_begin 90 = .ok (.iinc 5 1, 3) := by decide +kernel
theorem d_Mo_begin_93 : decode b_Mo_begin 93 = .ok (.goto (-33), 3) := by decide +kernel
theorem d_Mo_begin_96 : decode b_Mo_begin 96 = .ok (.aload_n 0, 1) := by decide +kernel
theorem d_Mo_begin_97 : decode b_Mo_begin 97 = .ok (.iload_n 1, 1) := by decide +kernel
theorem d_Mo_begin_98 : decode b_Mo_begin 98 = .ok (.invokevirtual 98, 3) := by decide +kernel
theorem d_Mo_begin_101 : decode b_Mo_begin 101 = .ok (.return_, 1) := by decide +kernel
theorem d_Mo_code_0 : decode b_Mo_code 0 = .ok (.aload_n 0, 1) := by decide +kernel
theorem d_Mo_code_1 : decode b_Mo_code 1 = .ok (.aload_n 0, 1) := by decide +kernel
theorem d_Mo_code_2 : decode b_Mo_code 2 = .ok (.iload_n 1, 1) := by decide +kernel
theorem d_Mo_code_3 : decode b_Mo_code 3 = .ok (.bipush 31, 2) := by decide +kernel
theorem d_Mo_code_5 : decode b_Mo_code 5 = .ok (.invokevirtual 102, 3) := by decide +kernel
theorem d_Mo_code_8 : decode b_Mo_code 8 = .ok (.ifCond .ne 32, 3) := by decide +kernel
theorem d_Mo_code_11 : decode b_Mo_code 11 = .ok (.aload_n 0, 1) := by decide +kernel
theorem d_Mo_code_12 : decode b_Mo_code 12 = .ok (.iload_n 2, 1) := by decide +kernel
theorem d_Mo_code_13 : decode b_Mo_code 13 = .ok (.bipush 21, 2) := by decide +kernel
theorem d_Mo_code_15 : decode b_Mo_code 15 = .ok (.invokevirtual 102, 3) := by decide +kernel
theorem d_Mo_code_18 : decode b_Mo_code 18 = .ok (.ifCond .ne 22, 3) := by decide +kernel
theorem d_Mo_code_21 : decode b_Mo_code 21 = .ok (.aload_n 0, 1) := by decide +kernel
theorem d_Mo_code_22 : decode b_Mo_code 22 = .ok (.iload_n 3, 1) := by decide +kernel
theorem d_Mo_code_23 : decode b_Mo_code 23 = .ok (.iconst 3, 1) := by decide +kernel
theorem d_Mo_code_24 : decode b_Mo_code 24 = .ok (.invokevirtual 102, 3) := by decide +kernel
theorem d_Mo_code_27 : decode b_Mo_code 27 = .ok (.ifCond .ne 13, 3) := by decide +kernel
theorem d_Mo_code_30 : decode b_Mo_code 30 = .ok (.aload_n 0, 1) := by decide +kernel
theorem d_Mo_code_31 : decode b_Mo_code 31 = .ok (.iload 4, 2) := by decide +kernel
theorem d_Mo_code_33 : decode b_Mo_code 33 = .ok (.iconst 3, 1) := by decide +kernel
theorem d_Mo_code_34 : decode b_Mo_code 34 = .ok (.invokevirtual 102, 3) := by decide +kernel
theorem d_Mo_code_37 : decode b_Mo_code 37 = .ok (.ifCond .eq 7, 3) := by decide +kernel
theorem d_Mo_code_40 : decode b_Mo_code 40 = .ok (.iconst 1, 1) := by decide +kernel
theorem d_Mo_code_41 : decode b_Mo_code 41 = .ok (.goto 4, 3) := by decide +kernel
theorem d_Mo_code_44 : decode b_Mo_code 44 = .ok (.iconst 0, 1) := by decide +kernel
theorem d_Mo_code_45 : decode b_Mo_code 45 = .ok (.putfield 90, 3) := by decide +kernel
theorem d_Mo_code_48 : decode b_Mo_code 48 = .ok (.aload_n 0, 1) := by decide +kernel
theorem d_Mo_code_49 : decode b_Mo_code 49 = .ok (.getfield 90, 3) := by decide +kernel
theorem d_Mo_code_52 : decode b_Mo_code 52 = .ok (.ifCond .eq 4, 3) := by decide +kernel
theorem d_Mo_code_55 : decode b_Mo_code 55 = .ok (.return_, 1) := by decide +kernel
theorem d_Mo_code_56 : decode b_Mo_code 56 = .ok (.aload_n 0, 1) := by decide +kernel
theorem d_Mo_code_57 : decode b_Mo_code 57 = .ok (.getfield 7, 3) := by decide +kernel
theorem d_Mo_code_60 : decode b_Mo_code 60 = .ok (.iload_n 1, 1) := by decide +kernel
theorem d_Mo_code_61 : decode b_Mo_code 61 = .ok (.iload_n 2, 1) := by decide +kernel
theorem d_Mo_code_62 : decode b_Mo_code 62 = .ok (.iastore, 1) := by decide +kernel
theorem d_Mo_code_63 : decode b_Mo_code 63 = .ok (.aload_n 0, 1) := by decide +kernel
theorem d_Mo_code_64 : decode b_Mo_code 64 = .ok (.getfield 13, 3) := by decide +kernel
theorem d_Mo_code_67 : decode b_Mo_code 67 = .ok (.iload_n 1, 1) := by decide +kernel
theorem d_Mo_code_68 : decode b_Mo_code 68 = .ok (.iload_n 3, 1) := by decide +kernel
theorem d_Mo_code_69 : decode b_Mo_code 69 = .ok (.iastore, 1) := by decide +kernel
theorem d_Mo_code_70 : decode b_Mo_code 70 = .ok (.aload_n 0, 1) := by decide +kernel
theorem d_Mo_code_71 : decode b_Mo_code 71 = .ok (.getfield 16, 3) := by decide +kernel
theorem d_Mo_code_74 : decode b_Mo_code 74 = .ok (.iload_n 1, 1) := by decide +kernel
theorem d_Mo_code_75 : decode b_Mo_code 75 = .ok (.iload 4, 2) := by decide +kernel
theorem d_Mo_code_77 : decode b_Mo_code 77 = .ok (.iastore, 1) := by decide +kernel
theorem d_Mo_code_78 : decode b_Mo_code 78 = .ok (.aload_n 0, 1) := by decide +kernel
theorem d_Mo_code_79 : decode b_Mo_code 79 = .ok (.getfield 19, 3) := by decide +kernel
theorem d_Mo_code_82 : decode b_Mo_code 82 = .ok (.iload_n 1, 1) := by decide +kernel
theorem d_Mo_code_83 : decode b_Mo_code 83 = .ok (.iload 5, 2) := by decide +kernel
theorem d_Mo_code_85 : decode b_Mo_code 85 = .ok (.iastore, 1) := by decide +kernel
theorem d_Mo_code_86 : decode b_Mo_code 86 = .ok (.return_, 1) := by decide +kernel
theorem d_Mo_no_0 : decode b_Mo_no 0 = .ok (.iload_n 1, 1) := by decide +kernel
theorem d_Mo_no_1 : decode b_Mo_no 1 = .ok (.ifCond .lt 8, 3) := by decide +kernel
theorem d_Mo_no_4 : decode b_Mo_no 4 = .ok (.iload_n 1, 1) := by decide +kernel
theorem d_Mo_no_5 : decode b_Mo_no 5 = .ok (.iload_n 2, 1) := by decide +kernel
theorem d_Mo_no_6 : decode b_Mo_no 6 = .ok (.if_icmp .le 7, 3) := by decide +kernel
theorem d_Mo_no_9 : decode b_Mo_no 9 = .ok (.iconst 1, 1) := by decide +kernel
theorem d_Mo_no_10 : decode b_Mo_no 10 = .ok (.goto 4, 3) := by decide +kernel
theorem d_Mo_no_13 : decode b_Mo_no 13 = .ok (.iconst 0, 1) := by decide +kernel
theorem d_Mo_no_14 : decode b_Mo_no 14 = .ok (.ireturn, 1) := by decide +kernel
theorem d_Mo_unmap_0 : decode b_Mo_unmap 0 = .ok (.aload_n 0, 1) := by decide +kernel
theorem d_Mo_unmap_1 : decode b_Mo_unmap 1 = .ok (.getfield 55, 3) := by decide +kernel
theorem d_Mo_unmap_4 : decode b_Mo_unmap 4 = .ok (.iload_n 1, 1) := by decide +kernel
theorem d_Mo_unmap_5 : decode b_Mo_unmap 5 = .ok (.iconst 4, 1) := by decide +kernel
theorem d_Mo_unmap_6 : decode b_Mo_unmap 6 = .ok (.imul, 1) := by decide +kernel
theorem d_Mo_unmap_7 : decode b_Mo_unmap 7 = .ok (.iload_n 2, 1) := by decide +kernel
theorem d_Mo_unmap_8 : decode b_Mo_unmap 8 = .ok (.iadd, 1) := by decide +kernel
theorem d_Mo_unmap_9 : decode b_Mo_unmap 9 = .ok (.iaload, 1) := by decide +kernel
theorem d_Mo_unmap_10 : decode b_Mo_unmap 10 = .ok (.ifCond .ge 4, 3) := by decide +kernel
theorem d_Mo_unmap_13 : decode b_Mo_unmap 13 = .ok (.return_, 1) := by decide +kernel
theorem d_Mo_unmap_14 : decode b_Mo_unmap 14 = .ok (.aload_n 0, 1) := by decide +kernel
theorem d_Mo_unmap_15 : decode b_Mo_unmap 15 = .ok (.getfield 61, 3) := by decide +kernel
theorem d_Mo_unmap_18 : decode b_Mo_unmap 18 = .ok (.aload_n 0, 1) := by decide +kernel
theorem d_Mo_unmap_19 : decode b_Mo_unmap 19 = .ok (.getfield 55, 3) := by decide +kernel
theorem d_Mo_unmap_22 : decode b_Mo_unmap 22 = .ok (.iload_n 1, 1) := by decide +kernel
theorem d_Mo_unmap_23 : decode b_Mo_unmap 23 = .ok (.iconst 4, 1) := by decide +kernel
theorem d_Mo_unmap_24 : decode b_Mo_unmap 24 = .ok (.imul, 1) := by decide +kernel
theorem d_Mo_unmap_25 : decode b_Mo_unmap 25 = .ok (.iload_n 2, 1) := by decide +kernel
theorem d_Mo_unmap_26 : decode b_Mo_unmap 26 = .ok (.iadd, 1) := by decide +kernel
theorem d_Mo_unmap_27 : decode b_Mo_unmap 27 = .ok (.iaload, 1) := by decide +kernel
theorem d_Mo_unmap_28 : decode b_Mo_unmap 28 = .ok (.iconst 0, 1) := by decide +kernel
theorem d_Mo_unmap_29 : decode b_Mo_unmap 29 = .ok (.bastore, 1) := by decide +kernel
theorem d_Mo_unmap_30 : decode b_Mo_unmap 30 = .ok (.aload_n 0, 1) := by decide +kernel
theorem d_Mo_unmap_31 : decode b_Mo_unmap 31 = .ok (.getfield 55, 3) := by decide +kernel
theorem d_Mo_unmap_34 : decode b_Mo_unmap 34 = .ok (.iload_n 1, 1) := by decide +kernel
theorem d_Mo_unmap_35 : decode b_Mo_unmap 35 = .ok (.iconst 4, 1) := by decide +kernel
theorem d_Mo_unmap_36 : decode b_Mo_unmap 36 = .ok (.imul, 1) := by decide +kernel
theorem d_Mo_unmap_37 : decode b_Mo_unmap 37 = .ok (.iload_n 2, 1) := by decide +kernel
theorem d_Mo_unmap_38 : decode b_Mo_unmap 38 = .ok (.iadd, 1) := by decide +kernel
theorem d_Mo_unmap_39 : decode b_Mo_unmap 39 = .ok (.iconst (-1), 1) := by decide +kernel
theorem d_Mo_unmap_40 : decode b_Mo_unmap 40 = .ok (.iastore, 1) := by decide +kernel
theorem d_Mo_unmap_41 : decode b_Mo_unmap 41 = .ok (.aload_n 0, 1) := by decide +kernel
theorem d_Mo_unmap_42 : decode b_Mo_unmap 42 = .ok (.getfield 34, 3) := by decide +kernel
theorem d_Mo_unmap_45 : decode b_Mo_unmap 45 = .ok (.iload_n 1, 1) := by decide +kernel
theorem d_Mo_unmap_46 : decode b_Mo_unmap 46 = .ok (.dup2, 1) := by decide +kernel
theorem d_Mo_unmap_47 : decode b_Mo_unmap 47 = .ok (.iaload, 1) := by decide +kernel
theorem d_Mo_unmap_48 : decode b_Mo_unmap 48 = .ok (.iconst 1, 1) := by decide +kernel
theorem d_Mo_unmap_49 : decode b_Mo_unmap 49 = .ok (.isub, 1) := by decide +kernel
theorem d_Mo_unmap_50 : decode b_Mo_unmap 50 = .ok (.iastore, 1) := by decide +kernel
theorem d_Mo_unmap_51 : decode b_Mo_unmap 51 = .ok (.return_, 1) := by decide +kernel
theorem d_Mo_unlock_0 : decode b_Mo_unlock 0 = .ok (.aload_n 0, 1) := by decide +kernel
theorem d_Mo_unlock_1 : decode b_Mo_unlock 1 = .ok (.getfield 77, 3) := by decide +kernel
theorem d_Mo_unlock_4 : decode b_Mo_unlock 4 = .ok (.iload_n 1, 1) := by decide +kernel
theorem d_Mo_unlock_5 : decode b_Mo_unlock 5 = .ok (.aload_n 0, 1) := by decide +kernel
theorem d_Mo_unlock_6 : decode b_Mo_unlock 6 = .ok (.getfield 68, 3) := by decide +kernel
theorem d_Mo_unlock_9 : decode b_Mo_unlock 9 = .ok (.bipush 10, 2) := by decide +kernel
theorem d_Mo_unlock_11 : decode b_Mo_unlock 11 = .ok (.iload_n 1, 1) := by decide +kernel
theorem d_Mo_unlock_12 : decode b_Mo_unlock 12 = .ok (.iadd, 1) := by decide +kernel
theorem d_Mo_unlock_13 : decode b_Mo_unlock 13 = .ok (.iaload, 1) := by decide +kernel
theorem d_Mo_unlock_14 : decode b_Mo_unlock 14 = .ok (.ifCond .le 14, 3) := by decide +kernel
theorem d_Mo_unlock_17 : decode b_Mo_unlock 17 = .ok (.aload_n 0, 1) := by decide +kernel
theorem d_Mo_unlock_18 : decode b_Mo_unlock 18 = .ok (.bipush 10, 2) := by decide +kernel
theorem d_Mo_unlock_20 : decode b_Mo_unlock 20 = .ok (.iload_n 1, 1) := by decide +kernel
theorem d_Mo_unlock_21 : decode b_Mo_unlock 21 = .ok (.iadd, 1) := by decide +kernel
theorem d_Mo_unlock_22 : decode b_Mo_unlock 22 = .ok (.invokevirtual 106, 3) := by decide +kernel
theorem d_Mo_unlock_25 : decode b_Mo_unlock 25 = .ok (.goto 4, 3) := by decide +kernel
theorem d_Mo_unlock_28 : decode b_Mo_unlock 28 = .ok (.iconst (-1), 1) := by decide +kernel
theorem d_Mo_unlock_29 : decode b_Mo_unlock 29 = .ok (.iastore, 1) := by decide +kernel
theorem d_Mo_unlock_30 : decode b_Mo_unlock 30 = .ok (.aload_n 0, 1) := by decide +kernel
theorem d_Mo_unlock_31 : decode b_Mo_unlock 31 = .ok (.getfield 77, 3) := by decide +kernel
theorem d_Mo_unlock_34 : decode b_Mo_unlock 34 = .ok (.iload_n 1, 1) := by decide +kernel
theorem d_Mo_unlock_35 : decode b_Mo_unlock 35 = .ok (.iaload, 1) := by decide +kernel
theorem d_Mo_unlock_36 : decode b_Mo_unlock 36 = .ok (.ifCond .lt 13, 3) := by decide +kernel
theorem d_Mo_unlock_39 : decode b_Mo_unlock 39 = .ok (.aload_n 0, 1) := by decide +kernel
theorem d_Mo_unlock_40 : decode b_Mo_unlock 40 = .ok (.aload_n 0, 1) := by decide +kernel
theorem d_Mo_unlock_41 : decode b_Mo_unlock 41 = .ok (.getfield 77, 3) := by decide +kernel
theorem d_Mo_unlock_44 : decode b_Mo_unlock 44 = .ok (.iload_n 1, 1) := by decide +kernel
theorem d_Mo_unlock_45 : decode b_Mo_unlock 45 = .ok (.iaload, 1) := by decide +kernel
theorem d_Mo_unlock_46 : decode b_Mo_unlock 46 = .ok (.invokevirtual 98, 3) := by decide +kernel
theorem d_Mo_unlock_49 : decode b_Mo_unlock 49 = .ok (.return_, 1) := by decide +kernel
theorem d_Mo_die_0 : decode b_Mo_die 0 = .ok (.aload_n 0, 1) := by decide +kernel
theorem d_Mo_die_1 : decode b_Mo_die 1 = .ok (.getfield 22, 3) := by decide +kernel
theorem d_Mo_die_4 : decode b_Mo_die 4 = .ok (.iload_n 1, 1) := by decide +kernel
theorem d_Mo_die_5 : decode b_Mo_die 5 = .ok (.iconst 3, 1) := by decide +kernel
theorem d_Mo_die_6 : decode b_Mo_die 6 = .ok (.iastore, 1) := by decide +kernel
theorem d_Mo_die_7 : decode b_Mo_die 7 = .ok (.aload_n 0, 1) := by decide +kernel
theorem d_Mo_die_8 : decode b_Mo_die 8 = .ok (.getfield 43, 3) := by decide +kernel
theorem d_Mo_die_11 : decode b_Mo_die 11 = .ok (.iload_n 1, 1) := by decide +kernel
theorem d_Mo_die_12 : decode b_Mo_die 12 = .ok (.iload_n 2, 1) := by decide +kernel
theorem d_Mo_die_13 : decode b_Mo_die 13 = .ok (.iastore, 1) := by decide +kernel
theorem d_Mo_die_14 : decode b_Mo_die 14 = .ok (.iconst 0, 1) := by decide +kernel
theorem d_Mo_die_15 : decode b_Mo_die 15 = .ok (.istore_n 3, 1) := by decide +kernel
theorem d_Mo_die_16 : decode b_Mo_die 16 = .ok (.iload_n 3, 1) := by decide +kernel
theorem d_Mo_die_17 : decode b_Mo_die 17 = .ok (.iconst 4, 1) := by decide +kernel
theorem d_Mo_die_18 : decode b_Mo_die 18 = .ok (.if_icmp .ge 15, 3) := by decide +kernel
theorem d_Mo_die_21 : decode b_Mo_die 21 = .ok (.aload_n 0, 1) := by decide +kernel
theorem d_Mo_die_22 : decode b_Mo_die 22 = .ok (.iload_n 1, 1) := by decide +kernel
theorem d_Mo_die_23 : decode b_Mo_die 23 = .ok (.iload_n 3, 1) := by decide +kernel
theorem d_Mo_die_24 : decode b_Mo_die 24 = .ok (.invokevirtual 110, 3) := by decide +kernel
theorem d_Mo_die_27 : decode b_Mo_die 27 = .ok (.iinc 3 1, 3) := by decide +kernel
theorem d_Mo_die_30 : decode b_Mo_die 30 = .ok (.goto (-14), 3) := by decide +kernel
theorem d_Mo_die_33 : decode b_Mo_die 33 = .ok (.iconst 0, 1) := by decide +kernel
theorem d_Mo_die_34 : decode b_Mo_die 34 = .ok (.istore_n 3, 1) := by decide +kernel
theorem d_Mo_die_35 : decode b_Mo_die 35 = .ok (.iload_n 3, 1) := by decide +kernel
theorem d_Mo_die_36 : decode b_Mo_die 36 = .ok (.iconst 4, 1) := by decide +kernel
theorem d_Mo_die_37 : decode b_Mo_die 37 = .ok (.if_icmp .ge 24, 3) := by decide +kernel
theorem d_Mo_die_40 : decode b_Mo_die 40 = .ok (.aload_n 0, 1) := by decide +kernel
theorem d_Mo_die_41 : decode b_Mo_die 41 = .ok (.getfield 77, 3) := by decide +kernel
theorem d_Mo_die_44 : decode b_Mo_die 44 = .ok (.iload_n 3, 1) := by decide +kernel
theorem d_Mo_die_45 : decode b_Mo_die 45 = .ok (.iaload, 1) := by decide +kernel
theorem d_Mo_die_46 : decode b_Mo_die 46 = .ok (.iload_n 1, 1) := by decide +kernel
theorem d_Mo_die_47 : decode b_Mo_die 47 = .ok (.if_icmp .ne 8, 3) := by decide +kernel
theorem d_Mo_die_50 : decode b_Mo_die 50 = .ok (.aload_n 0, 1) := by decide +kernel
theorem d_Mo_die_51 : decode b_Mo_die 51 = .ok (.iload_n 3, 1) := by decide +kernel
theorem d_Mo_die_52 : decode b_Mo_die 52 = .ok (.invokevirtual 113, 3) := by decide +kernel
theorem d_Mo_die_55 : decode b_Mo_die 55 = .ok (.iinc 3 1, 3) := by decide +kernel
theorem d_Mo_die_58 : decode b_Mo_die 58 = .ok (.goto (-23), 3) := by decide +kernel
theorem d_Mo_die_61 : decode b_Mo_die 61 = .ok (.iconst 0, 1) := by decide +kernel
theorem d_Mo_die_62 : decode b_Mo_die 62 = .ok (.istore_n 3, 1) := by decide +kernel
theorem d_Mo_die_63 : decode b_Mo_die 63 = .ok (.iload_n 3, 1) := by decide +kernel
theorem d_Mo_die_64 : decode b_Mo_die 64 = .ok (.bipush 6, 2) := by decide +kernel
theorem d_Mo_die_66 : decode b_Mo_die 66 = .ok (.if_icmp .ge 55, 3) := by decide +kernel
theorem d_Mo_die_69 : decode b_Mo_die 69 = .ok (.aload_n 0, 1) := by decide +kernel
theorem d_Mo_die_70 : decode b_Mo_die 70 = .ok (.getfield 22, 3) := by decide +kernel
theorem d_Mo_die_73 : decode b_Mo_die 73 = .ok (.iload_n 3, 1) := by decide +kernel
theorem d_Mo_die_74 : decode b_Mo_die 74 = .ok (.iaload, 1) := by decide +kernel
theorem d_Mo_die_75 : decode b_Mo_die 75 = .ok (.ifCond .lt 40, 3) := by decide +kernel
theorem d_Mo_die_78 : decode b_Mo_die 78 = .ok (.aload_n 0, 1) := by decide +kernel
theorem d_Mo_die_79 : decode b_Mo_die 79 = .ok (.getfield 40, 3) := by decide +kernel
theorem d_Mo_die_82 : decode b_Mo_die 82 = .ok (.iload_n 3, 1) := by decide +kernel
theorem d_Mo_die_83 : decode b_Mo_die 83 = .ok (.iaload, 1) := by decide +kernel
theorem d_Mo_die_84 : decode b_Mo_die 84 = .ok (.iload_n 1, 1) := by decide +kernel
theorem d_Mo_die_85 : decode b_Mo_die 85 = .ok (.if_icmp .ne 30, 3) := by decide +kernel
theorem d_Mo_die_88 : decode b_Mo_die 88 = .ok (.aload_n 0, 1) := by decide +kernel
theorem d_Mo_die_89 : decode b_Mo_die 89 = .ok (.getfield 40, 3) := by decide +kernel
theorem d_Mo_die_92 : decode b_Mo_die 92 = .ok (.iload_n 3, 1) := by decide +kernel
theorem d_Mo_die_93 : decode b_Mo_die 93 = .ok (.aload_n 0, 1) := by decide +kernel
theorem d_Mo_die_94 : decode b_Mo_die 94 = .ok (.getfield 40, 3) := by decide +kernel
theorem d_Mo_die_97 : decode b_Mo_die 97 = .ok (.iload_n 1, 1) := by decide +kernel
theorem d_Mo_die_98 : decode b_Mo_die 98 = .ok (.iaload, 1) := by decide +kernel
theorem d_Mo_die_99 : decode b_Mo_die 99 = .ok (.iastore, 1) := by decide +kernel
theorem d_Mo_die_100 : decode b_Mo_die 100 = .ok (.aload_n 0, 1) := by decide +kernel
theorem d_Mo_die_101 : decode b_Mo_die 101 = .ok (.getfield 31, 3) := by decide +kernel
theorem d_Mo_die_104 : decode b_Mo_die 104 = .ok (.iload_n 1, 1) := by decide +kernel
theorem d_Mo_die_105 : decode b_Mo_die 105 = .ok (.dup2, 1) := by decide +kernel
theorem d_Mo_die_106 : decode b_Mo_die 106 = .ok (.iaload, 1) := by decide +kernel
theorem d_Mo_die_107 : decode b_Mo_die 107 = .ok (.aload_n 0, 1) := by decide +kernel
theorem d_Mo_die_108 : decode b_Mo_die 108 = .ok (.getfield 31, 3) := by decide +kernel
theorem d_Mo_die_111 : decode b_Mo_die 111 = .ok (.iload_n 3, 1) := by decide +kernel
theorem d_Mo_die_112 : decode b_Mo_die 112 = .ok (.iaload, 1) := by decide +kernel
theorem d_Mo_die_113 : decode b_Mo_die 113 = .ok (.isub, 1) := by decide +kernel
theorem d_Mo_die_114 : decode b_Mo_die 114 = .ok (.iastore, 1) := by decide +kernel
theorem d_Mo_die_115 : decode b_Mo_die 115 = .ok (.iinc 3 1, 3) := by decide +kernel
theorem d_Mo_die_118 : decode b_Mo_die 118 = .ok (.goto (-55), 3) := by decide +kernel
theorem d_Mo_die_121 : decode b_Mo_die 121 = .ok (.aload_n 0, 1) := by decide +kernel
theorem d_Mo_die_122 : decode b_Mo_die 122 = .ok (.getfield 37, 3) := by decide +kernel
theorem d_Mo_die_125 : decode b_Mo_die 125 = .ok (.iload_n 1, 1) := by decide +kernel
theorem d_Mo_die_126 : decode b_Mo_die 126 = .ok (.iconst 0, 1) := by decide +kernel
theorem d_Mo_die_127 : decode b_Mo_die 127 = .ok (.iastore, 1) := by decide +kernel
theorem d_Mo_die_128 : decode b_Mo_die 128 = .ok (.return_, 1) := by decide +kernel
theorem d_Mo_trap_0 : decode b_Mo_trap 0 = .ok (.aload_n 0, 1) := by decide +kernel
theorem d_Mo_trap_1 : decode b_Mo_trap 1 = .ok (.getfield 46, 3) := by decide +kernel
theorem d_Mo_trap_4 : decode b_Mo_trap 4 = .ok (.iload_n 1, 1) := by decide +kernel
theorem d_Mo_trap_5 : decode b_Mo_trap 5 = .ok (.dup2, 1) := by decide +kernel
theorem d_Mo_trap_6 : decode b_Mo_trap 6 = .ok (.iaload, 1) := by decide +kernel
theorem d_Mo_trap_7 : decode b_Mo_trap 7 = .ok (.iconst 1, 1) := by decide +kernel
theorem d_Mo_trap_8 : decode b_Mo_trap 8 = .ok (.iadd, 1) := by decide +kernel
theorem d_Mo_trap_9 : decode b_Mo_trap 9 = .ok (.iastore, 1) := by decide +kernel
theorem d_Mo_trap_10 : decode b_Mo_trap 10 = .ok (.aload_n 0, 1) := by decide +kernel
theorem d_Mo_trap_11 : decode b_Mo_trap 11 = .ok (.dup, 1) := by decide +kernel
theorem d_Mo_trap_12 : decode b_Mo_trap 12 = .ok (.getfield 116, 3) := by decide +kernel
theorem d_Mo_trap_15 : decode b_Mo_trap 15 = .ok (.iconst 1, 1) := by decide +kernel
theorem d_Mo_trap_16 : decode b_Mo_trap 16 = .ok (.iadd, 1) := by decide +kernel
theorem d_Mo_trap_17 : decode b_Mo_trap 17 = .ok (.putfield 116, 3) := by decide +kernel
theorem d_Mo_trap_20 : decode b_Mo_trap 20 = .ok (.aload_n 0, 1) := by decide +kernel
theorem d_Mo_trap_21 : decode b_Mo_trap 21 = .ok (.getfield 28, 3) := by decide +kernel
theorem d_Mo_trap_24 : decode b_Mo_trap 24 = .ok (.iload_n 1, 1) := by decide +kernel
theorem d_Mo_trap_25 : decode b_Mo_trap 25 = .ok (.iaload, 1) := by decide +kernel
theorem d_Mo_trap_26 : decode b_Mo_trap 26 = .ok (.ifCond .ge 15, 3) := by decide +kernel
theorem d_Mo_trap_29 : decode b_Mo_trap 29 = .ok (.aload_n 0, 1) := by decide +kernel
theorem d_Mo_trap_30 : decode b_Mo_trap 30 = .ok (.iload_n 1, 1) := by decide +kernel
theorem d_Mo_trap_31 : decode b_Mo_trap 31 = .ok (.bipush (-100), 2) := by decide +kernel
theorem d_Mo_trap_33 : decode b_Mo_trap 33 = .ok (.iload_n 2, 1) := by decide +kernel
theorem d_Mo_trap_34 : decode b_Mo_trap 34 = .ok (.isub, 1) := by decide +kernel
theorem d_Mo_trap_35 : decode b_Mo_trap 35 = .ok (.invokevirtual 119, 3) := by decide +kernel
theorem d_Mo_trap_38 : decode b_Mo_trap 38 = .ok (.goto 33, 3) := by decide +kernel
theorem d_Mo_trap_41 : decode b_Mo_trap 41 = .ok (.aload_n 0, 1) := by decide +kernel
theorem d_Mo_trap_42 : decode b_Mo_trap 42 = .ok (.getfield 52, 3) := by decide +kernel
theorem d_Mo_trap_45 : decode b_Mo_trap 45 = .ok (.iload_n 1, 1) := by decide +kernel
theorem d_Mo_trap_46 : decode b_Mo_trap 46 = .ok (.iconst 4, 1) := by decide +kernel
theorem d_Mo_trap_47 : decode b_Mo_trap 47 = .ok (.imul, 1) := by decide +kernel
theorem d_Mo_trap_48 : decode b_Mo_trap 48 = .ok (.iconst 3, 1) := by decide +kernel
theorem d_Mo_trap_49 : decode b_Mo_trap 49 = .ok (.iadd, 1) := by decide +kernel
theorem d_Mo_trap_50 : decode b_Mo_trap 50 = .ok (.iload_n 2, 1) := by decide +kernel
theorem d_Mo_trap_51 : decode b_Mo_trap 51 = .ok (.iastore, 1) := by decide +kernel
theorem d_Mo_trap_52 : decode b_Mo_trap 52 = .ok (.aload_n 0, 1) := by decide +kernel
theorem d_Mo_trap_53 : decode b_Mo_trap 53 = .ok (.getfield 25, 3) := by decide +kernel
theorem d_Mo_trap_56 : decode b_Mo_trap 56 = .ok (.iload_n 1, 1) := by decide +kernel
theorem d_Mo_trap_57 : decode b_Mo_trap 57 = .ok (.aload_n 0, 1) := by decide +kernel
theorem d_Mo_trap_58 : decode b_Mo_trap 58 = .ok (.getfield 28, 3) := by decide +kernel
theorem d_Mo_trap_61 : decode b_Mo_trap 61 = .ok (.iload_n 1, 1) := by decide +kernel
theorem d_Mo_trap_62 : decode b_Mo_trap 62 = .ok (.iaload, 1) := by decide +kernel
theorem d_Mo_trap_63 : decode b_Mo_trap 63 = .ok (.iastore, 1) := by decide +kernel
theorem d_Mo_trap_64 : decode b_Mo_trap 64 = .ok (.aload_n 0, 1) := by decide +kernel
theorem d_Mo_trap_65 : decode b_Mo_trap 65 = .ok (.getfield 28, 3) := by decide +kernel
theorem d_Mo_trap_68 : decode b_Mo_trap 68 = .ok (.iload_n 1, 1) := by decide +kernel
theorem d_Mo_trap_69 : decode b_Mo_trap 69 = .ok (.iconst (-1), 1) := by decide +kernel
theorem d_Mo_trap_70 : decode b_Mo_trap 70 = .ok (.iastore, 1) := by decide +kernel
theorem d_Mo_trap_71 : decode b_Mo_trap 71 = .ok (.return_, 1) := by decide +kernel
theorem d_Mo_where_0 : decode b_Mo_where 0 = .ok (.aload_n 0, 1) := by decide +kernel
theorem d_Mo_where_1 : decode b_Mo_where 1 = .ok (.iload_n 2, 1) := by decide +kernel
theorem d_Mo_where_2 : decode b_Mo_where 2 = .ok (.bipush 31, 2) := by decide +kernel
theorem d_Mo_where_4 : decode b_Mo_where 4 = .ok (.invokevirtual 102, 3) := by decide +kernel
theorem d_Mo_where_7 : decode b_Mo_where 7 = .ok (.ifCond .eq 6, 3) := by decide +kernel
theorem d_Mo_where_10 : decode b_Mo_where 10 = .ok (.bipush (-2), 2) := by decide +kernel
theorem d_Mo_where_12 : decode b_Mo_where 12 = .ok (.ireturn, 1) := by decide +kernel
theorem d_Mo_where_13 : decode b_Mo_where 13 = .ok (.aload_n 0, 1) := by decide +kernel
theorem d_Mo_where_14 : decode b_Mo_where 14 = .ok (.getfield 55, 3) := by decide +kernel
theorem d_Mo_where_17 : decode b_Mo_where 17 = .ok (.iload_n 1, 1) := by decide +kernel
theorem d_Mo_where_18 : decode b_Mo_where 18 = .ok (.iconst 4, 1) := by decide +kernel
theorem d_Mo_where_19 : decode b_Mo_where 19 = .ok (.imul, 1) := by decide +kernel
theorem d_Mo_where_20 : decode b_Mo_where 20 = .ok (.iload_n 2, 1) := by decide +kernel
theorem d_Mo_where_21 : decode b_Mo_where 21 = .ok (.bipush 8, 2) := by decide +kernel
theorem d_Mo_where_23 : decode b_Mo_where 23 = .ok (.idiv, 1) := by decide +kernel
theorem d_Mo_where_24 : decode b_Mo_where 24 = .ok (.iadd, 1) := by decide +kernel
theorem d_Mo_where_25 : decode b_Mo_where 25 = .ok (.iaload, 1) := by decide +kernel
theorem d_Mo_where_26 : decode b_Mo_where 26 = .ok (.istore_n 3, 1) := by decide +kernel
theorem d_Mo_where_27 : decode b_Mo_where 27 = .ok (.iload_n 3, 1) := by decide +kernel
theorem d_Mo_where_28 : decode b_Mo_where 28 = .ok (.ifCond .ge 8, 3) := by decide +kernel
theorem d_Mo_where_31 : decode b_Mo_where 31 = .ok (.bipush (-3), 2) := by decide +kernel
theorem d_Mo_where_33 : decode b_Mo_where 33 = .ok (.goto 12, 3) := by decide +kernel
theorem d_Mo_where_36 : decode b_Mo_where 36 = .ok (.iload_n 3, 1) := by decide +kernel
theorem d_Mo_where_37 : decode b_Mo_where 37 = .ok (.bipush 8, 2) := by decide +kernel
theorem d_Mo_where_39 : decode b_Mo_where 39 = .ok (.imul, 1) := by decide +kernel
theorem d_Mo_where_40 : decode b_Mo_where 40 = .ok (.iload_n 2, 1) := by decide +kernel
theorem d_Mo_where_41 : decode b_Mo_where 41 = .ok (.bipush 8, 2) := by decide +kernel
theorem d_Mo_where_43 : decode b_Mo_where 43 = .ok (.irem, 1) := by decide +kernel
theorem d_Mo_where_44 : decode b_Mo_where 44 = .ok (.iadd, 1) := by decide +kernel
theorem d_Mo_where_45 : decode b_Mo_where 45 = .ok (.ireturn, 1) := by decide +kernel
theorem d_Mo_map_0 : decode b_Mo_map 0 = .ok (.iconst 0, 1) := by decide +kernel
theorem d_Mo_map_1 : decode b_Mo_map 1 = .ok (.istore_n 3, 1) := by decide +kernel
theorem d_Mo_map_2 : decode b_Mo_map 2 = .ok (.iload_n 3, 1) := by decide +kernel
theorem d_Mo_map_3 : decode b_Mo_map 3 = .ok (.bipush 12, 2) := by decide +kernel
theorem d_Mo_map_5 : decode b_Mo_map 5 = .ok (.if_icmp .ge 18, 3) := by decide +kernel
theorem d_Mo_map_8 : decode b_Mo_map 8 = .ok (.aload_n 0, 1) := by decide +kernel
theorem d_Mo_map_9 : decode b_Mo_map 9 = .ok (.getfield 61, 3) := by decide +kernel
theorem d_Mo_map_12 : decode b_Mo_map 12 = .ok (.iload_n 3, 1) := by decide +kernel
theorem d_Mo_map_13 : decode b_Mo_map 13 = .ok (.baload, 1) := by decide +kernel
theorem d_Mo_map_14 : decode b_Mo_map 14 = .ok (.ifCond .eq 9, 3) := by decide +kernel
theorem d_Mo_map_17 : decode b_Mo_map 17 = .ok (.iinc 3 1, 3) := by decide +kernel
theorem d_Mo_map_20 : decode b_Mo_map 20 = .ok (.goto (-18), 3) := by decide +kernel
theorem d_Mo_map_23 : decode b_Mo_map 23 = .ok (.aload_n 0, 1) := by decide +kernel
theorem d_Mo_map_24 : decode b_Mo_map 24 = .ok (.getfield 55, 3) := by decide +kernel
theorem d_Mo_map_27 : decode b_Mo_map 27 = .ok (.iload_n 1, 1) := by decide +kernel
theorem d_Mo_map_28 : decode b_Mo_map 28 = .ok (.iconst 4, 1) := by decide +kernel
theorem d_Mo_map_29 : decode b_Mo_map 29 = .ok (.imul, 1) := by decide +kernel
theorem d_Mo_map_30 : decode b_Mo_map 30 = .ok (.iload_n 2, 1) := by decide +kernel
theorem d_Mo_map_31 : decode b_Mo_map 31 = .ok (.iadd, 1) := by decide +kernel
theorem d_Mo_map_32 : decode b_Mo_map 32 = .ok (.iaload, 1) := by decide +kernel
theorem d_Mo_map_33 : decode b_Mo_map 33 = .ok (.ifCond .ge 31, 3) := by decide +kernel
theorem d_Mo_map_36 : decode b_Mo_map 36 = .ok (.aload_n 0, 1) := by decide +kernel
theorem d_Mo_map_37 : decode b_Mo_map 37 = .ok (.getfield 34, 3) := by decide +kernel
theorem d_Mo_map_40 : decode b_Mo_map 40 = .ok (.iload_n 1, 1) := by decide +kernel
theorem d_Mo_map_41 : decode b_Mo_map 41 = .ok (.iaload, 1) := by decide +kernel
theorem d_Mo_map_42 : decode b_Mo_map 42 = .ok (.aload_n 0, 1) := by decide +kernel
theorem d_Mo_map_43 : decode b_Mo_map 43 = .ok (.getfield 37, 3) := by decide +kernel
theorem d_Mo_map_46 : decode b_Mo_map 46 = .ok (.iload_n 1, 1) := by decide +kernel
theorem d_Mo_map_47 : decode b_Mo_map 47 = .ok (.iaload, 1) := by decide +kernel
theorem d_Mo_map_48 : decode b_Mo_map 48 = .ok (.iadd, 1) := by decide +kernel
theorem d_Mo_map_49 : decode b_Mo_map 49 = .ok (.aload_n 0, 1) := by decide +kernel
theorem d_Mo_map_50 : decode b_Mo_map 50 = .ok (.getfield 31, 3) := by decide +kernel
theorem d_Mo_map_53 : decode b_Mo_map 53 = .ok (.iload_n 1, 1) := by decide +kernel
theorem d_Mo_map_54 : decode b_Mo_map 54 = .ok (.iaload, 1) := by decide +kernel
theorem d_Mo_map_55 : decode b_Mo_map 55 = .ok (.if_icmp .ge 9, 3) := by decide +kernel
theorem d_Mo_map_58 : decode b_Mo_map 58 = .ok (.iload_n 3, 1) := by decide +kernel
theorem d_Mo_map_59 : decode b_Mo_map 59 = .ok (.bipush 12, 2) := by decide +kernel
theorem d_Mo_map_61 : decode b_Mo_map 61 = .ok (.if_icmp .ne 5, 3) := by decide +kernel
theorem d_Mo_map_64 : decode b_Mo_map 64 = .ok (.iconst 0, 1) := by decide +kernel
theorem d_Mo_map_65 : decode b_Mo_map 65 = .ok (.ireturn, 1) := by decide +kernel
theorem d_Mo_map_66 : decode b_Mo_map 66 = .ok (.aload_n 0, 1) := by decide +kernel
theorem d_Mo_map_67 : decode b_Mo_map 67 = .ok (.getfield 61, 3) := by decide +kernel
theorem d_Mo_map_70 : decode b_Mo_map 70 = .ok (.iload_n 3, 1) := by decide +kernel
theorem d_Mo_map_71 : decode b_Mo_map 71 = .ok (.iconst 1, 1) := by decide +kernel
theorem d_Mo_map_72 : decode b_Mo_map 72 = .ok (.bastore, 1) := by decide +kernel
theorem d_Mo_map_73 : decode b_Mo_map 73 = .ok (.iconst 0, 1) := by decide +kernel
theorem d_Mo_map_74 : decode b_Mo_map 74 = .ok (.istore 4, 2) := by decide +kernel
theorem d_Mo_map_76 : decode b_Mo_map 76 = .ok (.iload 4, 2) := by decide +kernel
theorem d_Mo_map_78 : decode b_Mo_map 78 = .ok (.bipush 8, 2) := by decide +kernel
theorem d_Mo_map_80 : decode b_Mo_map 80 = .ok (.if_icmp .ge 22, 3) := by decide +kernel
theorem d_Mo_map_83 : decode b_Mo_map 83 = .ok (.aload_n 0, 1) := by decide +kernel
theorem d_Mo_map_84 : decode b_Mo_map 84 = .ok (.getfield 58, 3) := by decide +kernel
theorem d_Mo_map_87 : decode b_Mo_map 87 = .ok (.iload_n 3, 1) := by decide +kernel
theorem d_Mo_map_88 : decode b_Mo_map 88 = .ok (.bipush 8, 2) := by decide +kernel
theorem d_Mo_map_90 : decode b_Mo_map 90 = .ok (.imul, 1) := by decide +kernel
theorem d_Mo_map_91 : decode b_Mo_map 91 = .ok (.iload 4, 2) := by decide +kernel
theorem d_Mo_map_93 : decode b_Mo_map 93 = .ok (.iadd, 1) := by decide +kernel
theorem d_Mo_map_94 : decode b_Mo_map 94 = .ok (.iconst 0, 1) := by decide +kernel
theorem d_Mo_map_95 : decode b_Mo_map 95 = .ok (.iastore, 1) := by decide +kernel
theorem d_Mo_map_96 : decode b_Mo_map 96 = .ok (.iinc 4 1, 3) := by decide +kernel
theorem d_Mo_map_99 : decode b_Mo_map 99 = .ok (.goto (-23), 3) := by decide +kernel
theorem d_Mo_map_102 : decode b_Mo_map 102 = .ok (.aload_n 0, 1) := by decide +kernel
theorem d_Mo_map_103 : decode b_Mo_map 103 = .ok (.getfield 55, 3) := by decide +kernel
theorem d_Mo_map_106 : decode b_Mo_map 106 = .ok (.iload_n 1, 1) := by decide +kernel
theorem d_Mo_map_107 : decode b_Mo_map 107 = .ok (.iconst 4, 1) := by decide +kernel
theorem d_Mo_map_108 : decode b_Mo_map 108 = .ok (.imul, 1) := by decide +kernel
theorem d_Mo_map_109 : decode b_Mo_map 109 = .ok (.iload_n 2, 1) := by decide +kernel
theorem d_Mo_map_110 : decode b_Mo_map 110 = .ok (.iadd, 1) := by decide +kernel
theorem d_Mo_map_111 : decode b_Mo_map 111 = .ok (.iload_n 3, 1) := by decide +kernel
theorem d_Mo_map_112 : decode b_Mo_map 112 = .ok (.iastore, 1) := by decide +kernel
theorem d_Mo_map_113 : decode b_Mo_map 113 = .ok (.aload_n 0, 1) := by decide +kernel
theorem d_Mo_map_114 : decode b_Mo_map 114 = .ok (.getfield 34, 3) := by decide +kernel
theorem d_Mo_map_117 : decode b_Mo_map 117 = .ok (.iload_n 1, 1) := by decide +kernel
theorem d_Mo_map_118 : decode b_Mo_map 118 = .ok (.dup2, 1) := by decide +kernel
theorem d_Mo_map_119 : decode b_Mo_map 119 = .ok (.iaload, 1) := by decide +kernel
theorem d_Mo_map_120 : decode b_Mo_map 120 = .ok (.iconst 1, 1) := by decide +kernel
theorem d_Mo_map_121 : decode b_Mo_map 121 = .ok (.iadd, 1) := by decide +kernel
theorem d_Mo_map_122 : decode b_Mo_map 122 = .ok (.iastore, 1) := by decide +kernel
theorem d_Mo_map_123 : decode b_Mo_map 123 = .ok (.iconst 1, 1) := by decide +kernel
theorem d_Mo_map_124 : decode b_Mo_map 124 = .ok (.ireturn, 1) := by decide +kernel
theorem d_Mo_spawn_0 : decode b_Mo_spawn 0 = .ok (.iconst 0, 1) := by decide +kernel
theorem d_Mo_spawn_1 : decode b_Mo_spawn 1 = .ok (.istore 5, 2) := by decide +kernel
theorem d_Mo_spawn_3 : decode b_Mo_spawn 3 = .ok (.iload 5, 2) := by decide +kernel
theorem d_Mo_spawn_5 : decode b_Mo_spawn 5 = .ok (.bipush 6, 2) := by decide +kernel
theorem d_Mo_spawn_7 : decode b_Mo_spawn 7 = .ok (.if_icmp .ge 19, 3) := by decide +kernel
theorem d_Mo_spawn_10 : decode b_Mo_spawn 10 = .ok (.aload_n 0, 1) := by decide +kernel
theorem d_Mo_spawn_11 : decode b_Mo_spawn 11 = .ok (.getfield 22, 3) := by decide +kernel
theorem d_Mo_spawn_14 : decode b_Mo_spawn 14 = .ok (.iload 5, 2) := by decide +kernel
theorem d_Mo_spawn_16 : decode b_Mo_spawn 16 = .ok (.iaload, 1) := by decide +kernel
theorem d_Mo_spawn_17 : decode b_Mo_spawn 17 = .ok (.ifCond .lt 9, 3) := by decide +kernel
theorem d_Mo_spawn_20 : decode b_Mo_spawn 20 = .ok (.iinc 5 1, 3) := by decide +kernel
theorem d_Mo_spawn_23 : decode b_Mo_spawn 23 = .ok (.goto (-20), 3) := by decide +kernel
theorem d_Mo_spawn_26 : decode b_Mo_spawn 26 = .ok (.iload_n 3, 1) := by decide +kernel
theorem d_Mo_spawn_27 : decode b_Mo_spawn 27 = .ok (.ifCond .lt 34, 3) := by decide +kernel
theorem d_Mo_spawn_30 : decode b_Mo_spawn 30 = .ok (.iload_n 3, 1) := by decide +kernel
theorem d_Mo_spawn_31 : decode b_Mo_spawn 31 = .ok (.aload_n 0, 1) := by decide +kernel
theorem d_Mo_spawn_32 : decode b_Mo_spawn 32 = .ok (.getfield 31, 3) := by decide +kernel
theorem d_Mo_spawn_35 : decode b_Mo_spawn 35 = .ok (.iload_n 1, 1) := by decide +kernel
theorem d_Mo_spawn_36 : decode b_Mo_spawn 36 = .ok (.iaload, 1) := by decide +kernel
theorem d_Mo_spawn_37 : decode b_Mo_spawn 37 = .ok (.aload_n 0, 1) := by decide +kernel
theorem d_Mo_spawn_38 : decode b_Mo_spawn 38 = .ok (.getfield 34, 3) := by decide +kernel
theorem d_Mo_spawn_41 : decode b_Mo_spawn 41 = .ok (.iload_n 1, 1) := by decide +kernel
theorem d_Mo_spawn_42 : decode b_Mo_spawn 42 = .ok (.iaload, 1) := by decide +kernel
theorem d_Mo_spawn_43 : decode b_Mo_spawn 43 = .ok (.isub, 1) := by decide +kernel
theorem d_Mo_spawn_44 : decode b_Mo_spawn 44 = .ok (.aload_n 0, 1) := by decide +kernel
theorem d_Mo_spawn_45 : decode b_Mo_spawn 45 = .ok (.getfield 37, 3) := by decide +kernel
theorem d_Mo_spawn_48 : decode b_Mo_spawn 48 = .ok (.iload_n 1, 1) := by decide +kernel
theorem d_Mo_spawn_49 : decode b_Mo_spawn 49 = .ok (.iaload, 1) := by decide +kernel
theorem d_Mo_spawn_50 : decode b_Mo_spawn 50 = .ok (.isub, 1) := by decide +kernel
theorem d_Mo_spawn_51 : decode b_Mo_spawn 51 = .ok (.if_icmp .gt 10, 3) := by decide +kernel
theorem d_Mo_spawn_54 : decode b_Mo_spawn 54 = .ok (.iload 5, 2) := by decide +kernel
theorem d_Mo_spawn_56 : decode b_Mo_spawn 56 = .ok (.bipush 6, 2) := by decide +kernel
theorem d_Mo_spawn_58 : decode b_Mo_spawn 58 = .ok (.if_icmp .ne 5, 3) := by decide +kernel
theorem d_Mo_spawn_61 : decode b_Mo_spawn 61 = .ok (.iconst (-1), 1) := by decide +kernel
theorem d_Mo_spawn_62 : decode b_Mo_spawn 62 = .ok (.ireturn, 1) := by decide +kernel
theorem d_Mo_spawn_63 : decode b_Mo_spawn 63 = .ok (.aload_n 0, 1) := by decide +kernel
theorem d_Mo_spawn_64 : decode b_Mo_spawn 64 = .ok (.getfield 37, 3) := by decide +kernel
theorem d_Mo_spawn_67 : decode b_Mo_spawn 67 = .ok (.iload_n 1, 1) := by decide +kernel
theorem d_Mo_spawn_68 : decode b_Mo_spawn 68 = .ok (.dup2, 1) := by decide +kernel
theorem d_Mo_spawn_69 : decode b_Mo_spawn 69 = .ok (.iaload, 1) := by decide +kernel
theorem d_Mo_spawn_70 : decode b_Mo_spawn 70 = .ok (.iload_n 3, 1) := by decide +kernel
theorem d_Mo_spawn_71 : decode b_Mo_spawn 71 = .ok (.iadd, 1) := by decide +kernel
theorem d_Mo_spawn_72 : decode b_Mo_spawn 72 = .ok (.iastore, 1) := by decide +kernel
theorem d_Mo_spawn_73 : decode b_Mo_spawn 73 = .ok (.aload_n 0, 1) := by decide +kernel
theorem d_Mo_spawn_74 : decode b_Mo_spawn 74 = .ok (.iload 5, 2) := by decide +kernel
theorem d_Mo_spawn_76 : decode b_Mo_spawn 76 = .ok (.iload_n 2, 1) := by decide +kernel
theorem d_Mo_spawn_77 : decode b_Mo_spawn 77 = .ok (.iload_n 3, 1) := by decide +kernel
theorem d_Mo_spawn_78 : decode b_Mo_spawn 78 = .ok (.iload_n 1, 1) := by decide +kernel
theorem d_Mo_spawn_79 : decode b_Mo_spawn 79 = .ok (.invokevirtual 86, 3) := by decide +kernel
theorem d_Mo_spawn_82 : decode b_Mo_spawn 82 = .ok (.aload_n 0, 1) := by decide +kernel
theorem d_Mo_spawn_83 : decode b_Mo_spawn 83 = .ok (.getfield 52, 3) := by decide +kernel
theorem d_Mo_spawn_86 : decode b_Mo_spawn 86 = .ok (.iload 5, 2) := by decide +kernel
theorem d_Mo_spawn_88 : decode b_Mo_spawn 88 = .ok (.iconst 4, 1) := by decide +kernel
theorem d_Mo_spawn_89 : decode b_Mo_spawn 89 = .ok (.imul, 1) := by decide +kernel
theorem d_Mo_spawn_90 : decode b_Mo_spawn 90 = .ok (.iload 4, 2) := by decide +kernel
theorem d_Mo_spawn_92 : decode b_Mo_spawn 92 = .ok (.iastore, 1) := by decide +kernel
theorem d_Mo_spawn_93 : decode b_Mo_spawn 93 = .ok (.aload_n 0, 1) := by decide +kernel
theorem d_Mo_spawn_94 : decode b_Mo_spawn 94 = .ok (.dup, 1) := by decide +kernel
theorem d_Mo_spawn_95 : decode b_Mo_spawn 95 = .ok (.getfield 122, 3) := by decide +kernel
theorem d_Mo_spawn_98 : decode b_Mo_spawn 98 = .ok (.iconst 1, 1) := by decide +kernel
theorem d_Mo_spawn_99 : decode b_Mo_spawn 99 = .ok (.iadd, 1) := by decide +kernel
theorem d_Mo_spawn_100 : decode b_Mo_spawn 100 = .ok (.putfield 122, 3) := by decide +kernel
theorem d_Mo_spawn_103 : decode b_Mo_spawn 103 = .ok (.iload 5, 2) := by decide +kernel
theorem d_Mo_spawn_105 : decode b_Mo_spawn 105 = .ok (.ireturn, 1) := by decide +kernel
theorem d_Mo_reap_0 : decode b_Mo_reap 0 = .ok (.iconst 0, 1) := by decide +kernel
theorem d_Mo_reap_1 : decode b_Mo_reap 1 = .ok (.istore_n 2, 1) := by decide +kernel
theorem d_Mo_reap_2 : decode b_Mo_reap 2 = .ok (.iload_n 2, 1) := by decide +kernel
theorem d_Mo_reap_3 : decode b_Mo_reap 3 = .ok (.bipush 6, 2) := by decide +kernel
theorem d_Mo_reap_5 : decode b_Mo_reap 5 = .ok (.if_icmp .ge 63, 3) := by decide +kernel
theorem d_Mo_reap_8 : decode b_Mo_reap 8 = .ok (.aload_n 0, 1) := by decide +kernel
theorem d_Mo_reap_9 : decode b_Mo_reap 9 = .ok (.getfield 22, 3) := by decide +kernel
theorem d_Mo_reap_12 : decode b_Mo_reap 12 = .ok (.iload_n 2, 1) := by decide +kernel
theorem d_Mo_reap_13 : decode b_Mo_reap 13 = .ok (.iaload, 1) := by decide +kernel
theorem d_Mo_reap_14 : decode b_Mo_reap 14 = .ok (.iconst 3, 1) := by decide +kernel
theorem d_Mo_reap_15 : decode b_Mo_reap 15 = .ok (.if_icmp .ne 47, 3) := by decide +kernel
theorem d_Mo_reap_18 : decode b_Mo_reap 18 = .ok (.aload_n 0, 1) := by decide +kernel
theorem d_Mo_reap_19 : decode b_Mo_reap 19 = .ok (.getfield 40, 3) := by decide +kernel
theorem d_Mo_reap_22 : decode b_Mo_reap 22 = .ok (.iload_n 2, 1) := by decide +kernel
theorem d_Mo_reap_23 : decode b_Mo_reap 23 = .ok (.iaload, 1) := by decide +kernel
theorem d_Mo_reap_24 : decode b_Mo_reap 24 = .ok (.iload_n 1, 1) := by decide +kernel
theorem d_Mo_reap_25 : decode b_Mo_reap 25 = .ok (.if_icmp .ne 37, 3) := by decide +kernel
theorem d_Mo_reap_28 : decode b_Mo_reap 28 = .ok (.aload_n 0, 1) := by decide +kernel
theorem d_Mo_reap_29 : decode b_Mo_reap 29 = .ok (.getfield 22, 3) := by decide +kernel
theorem d_Mo_reap_32 : decode b_Mo_reap 32 = .ok (.iload_n 2, 1) := by decide +kernel
theorem d_Mo_reap_33 : decode b_Mo_reap 33 = .ok (.iconst (-1), 1) := by decide +kernel
theorem d_Mo_reap_34 : decode b_Mo_reap 34 = .ok (.iastore, 1) := by decide +kernel
theorem d_Mo_reap_35 : decode b_Mo_reap 35 = .ok (.aload_n 0, 1) := by decide +kernel
theorem d_Mo_reap_36 : decode b_Mo_reap 36 = .ok (.getfield 37, 3) := by decide +kernel
theorem d_Mo_reap_39 : decode b_Mo_reap 39 = .ok (.iload_n 1, 1) := by decide +kernel
theorem d_Mo_reap_40 : decode b_Mo_reap 40 = .ok (.dup2, 1) := by decide +kernel
theorem d_Mo_reap_41 : decode b_Mo_reap 41 = .ok (.iaload, 1) := by decide +kernel
theorem d_Mo_reap_42 : decode b_Mo_reap 42 = .ok (.aload_n 0, 1) := by decide +kernel
theorem d_Mo_reap_43 : decode b_Mo_reap 43 = .ok (.getfield 31, 3) := by decide +kernel
theorem d_Mo_reap_46 : decode b_Mo_reap 46 = .ok (.iload_n 2, 1) := by decide +kernel
theorem d_Mo_reap_47 : decode b_Mo_reap 47 = .ok (.iaload, 1) := by decide +kernel
theorem d_Mo_reap_48 : decode b_Mo_reap 48 = .ok (.isub, 1) := by decide +kernel
theorem d_Mo_reap_49 : decode b_Mo_reap 49 = .ok (.iastore, 1) := by decide +kernel
theorem d_Mo_reap_50 : decode b_Mo_reap 50 = .ok (.aload_n 0, 1) := by decide +kernel
theorem d_Mo_reap_51 : decode b_Mo_reap 51 = .ok (.dup, 1) := by decide +kernel
theorem d_Mo_reap_52 : decode b_Mo_reap 52 = .ok (.getfield 125, 3) := by decide +kernel
theorem d_Mo_reap_55 : decode b_Mo_reap 55 = .ok (.iconst 1, 1) := by decide +kernel
theorem d_Mo_reap_56 : decode b_Mo_reap 56 = .ok (.iadd, 1) := by decide +kernel
theorem d_Mo_reap_57 : decode b_Mo_reap 57 = .ok (.putfield 125, 3) := by decide +kernel
theorem d_Mo_reap_60 : decode b_Mo_reap 60 = .ok (.iload_n 2, 1) := by decide +kernel
theorem d_Mo_reap_61 : decode b_Mo_reap 61 = .ok (.ireturn, 1) := by decide +kernel
theorem d_Mo_reap_62 : decode b_Mo_reap 62 = .ok (.iinc 2 1, 3) := by decide +kernel
theorem d_Mo_reap_65 : decode b_Mo_reap 65 = .ok (.goto (-63), 3) := by decide +kernel
theorem d_Mo_reap_68 : decode b_Mo_reap 68 = .ok (.iconst (-1), 1) := by decide +kernel
theorem d_Mo_reap_69 : decode b_Mo_reap 69 = .ok (.ireturn, 1) := by decide +kernel
theorem d_Mo_block_0 : decode b_Mo_block 0 = .ok (.aload_n 0, 1) := by decide +kernel
theorem d_Mo_block_1 : decode b_Mo_block 1 = .ok (.getfield 22, 3) := by decide +kernel
theorem d_Mo_block_4 : decode b_Mo_block 4 = .ok (.iload_n 1, 1) := by decide +kernel
theorem d_Mo_block_5 : decode b_Mo_block 5 = .ok (.iconst 2, 1) := by decide +kernel
theorem d_Mo_block_6 : decode b_Mo_block 6 = .ok (.iastore, 1) := by decide +kernel
theorem d_Mo_block_7 : decode b_Mo_block 7 = .ok (.aload_n 0, 1) := by decide +kernel
theorem d_Mo_block_8 : decode b_Mo_block 8 = .ok (.iload_n 2, 1) := by decide +kernel
theorem d_Mo_block_9 : decode b_Mo_block 9 = .ok (.iload_n 1, 1) := by decide +kernel
theorem d_Mo_block_10 : decode b_Mo_block 10 = .ok (.invokevirtual 94, 3) := by decide +kernel
theorem d_Mo_block_13 : decode b_Mo_block 13 = .ok (.return_, 1) := by decide +kernel
theorem d_Mo_send_0 : decode b_Mo_send 0 = .ok (.aload_n 0, 1) := by decide +kernel
theorem d_Mo_send_1 : decode b_Mo_send 1 = .ok (.getfield 74, 3) := by decide +kernel
theorem d_Mo_send_4 : decode b_Mo_send 4 = .ok (.iload_n 2, 1) := by decide +kernel
theorem d_Mo_send_5 : decode b_Mo_send 5 = .ok (.iaload, 1) := by decide +kernel
theorem d_Mo_send_6 : decode b_Mo_send 6 = .ok (.ifCond .ne 52, 3) := by decide +kernel
theorem d_Mo_send_9 : decode b_Mo_send 9 = .ok (.aload_n 0, 1) := by decide +kernel
theorem d_Mo_send_10 : decode b_Mo_send 10 = .ok (.getfield 68, 3) := by decide +kernel
theorem d_Mo_send_13 : decode b_Mo_send 13 = .ok (.bipush 6, 2) := by decide +kernel
theorem d_Mo_send_15 : decode b_Mo_send 15 = .ok (.iload_n 2, 1) := by decide +kernel
theorem d_Mo_send_16 : decode b_Mo_send 16 = .ok (.iadd, 1) := by decide +kernel
theorem d_Mo_send_17 : decode b_Mo_send 17 = .ok (.iaload, 1) := by decide +kernel
theorem d_Mo_send_18 : decode b_Mo_send 18 = .ok (.ifCond .le 40, 3) := by decide +kernel
theorem d_Mo_send_21 : decode b_Mo_send 21 = .ok (.aload_n 0, 1) := by decide +kernel
theorem d_Mo_send_22 : decode b_Mo_send 22 = .ok (.bipush 6, 2) := by decide +kernel
theorem d_Mo_send_24 : decode b_Mo_send 24 = .ok (.iload_n 2, 1) := by decide +kernel
theorem d_Mo_send_25 : decode b_Mo_send 25 = .ok (.iadd, 1) := by decide +kernel
theorem d_Mo_send_26 : decode b_Mo_send 26 = .ok (.invokevirtual 106, 3) := by decide +kernel
theorem d_Mo_send_29 : decode b_Mo_send 29 = .ok (.istore 4, 2) := by decide +kernel
theorem d_Mo_send_31 : decode b_Mo_send 31 = .ok (.aload_n 0, 1) := by decide +kernel
theorem d_Mo_send_32 : decode b_Mo_send 32 = .ok (.getfield 52, 3) := by decide +kernel
theorem d_Mo_send_35 : decode b_Mo_send 35 = .ok (.iload 4, 2) := by decide +kernel
theorem d_Mo_send_37 : decode b_Mo_send 37 = .ok (.iconst 4, 1) := by decide +kernel
theorem d_Mo_send_38 : decode b_Mo_send 38 = .ok (.imul, 1) := by decide +kernel
theorem d_Mo_send_39 : decode b_Mo_send 39 = .ok (.aload_n 0, 1) := by decide +kernel
theorem d_Mo_send_40 : decode b_Mo_send 40 = .ok (.getfield 49, 3) := by decide +kernel
theorem d_Mo_send_43 : decode b_Mo_send 43 = .ok (.iload 4, 2) := by decide +kernel
theorem d_Mo_send_45 : decode b_Mo_send 45 = .ok (.iaload, 1) := by decide +kernel
theorem d_Mo_send_46 : decode b_Mo_send 46 = .ok (.iadd, 1) := by decide +kernel
theorem d_Mo_send_47 : decode b_Mo_send 47 = .ok (.iload_n 3, 1) := by decide +kernel
theorem d_Mo_send_48 : decode b_Mo_send 48 = .ok (.iastore, 1) := by decide +kernel
theorem d_Mo_send_49 : decode b_Mo_send 49 = .ok (.aload_n 0, 1) := by decide +kernel
theorem d_Mo_send_50 : decode b_Mo_send 50 = .ok (.iload 4, 2) := by decide +kernel
theorem d_Mo_send_52 : decode b_Mo_send 52 = .ok (.invokevirtual 98, 3) := by decide +kernel
theorem d_Mo_send_55 : decode b_Mo_send 55 = .ok (.goto 57, 3) := by decide +kernel
theorem d_Mo_send_58 : decode b_Mo_send 58 = .ok (.aload_n 0, 1) := by decide +kernel
theorem d_Mo_send_59 : decode b_Mo_send 59 = .ok (.getfield 74, 3) := by decide +kernel
theorem d_Mo_send_62 : decode b_Mo_send 62 = .ok (.iload_n 2, 1) := by decide +kernel
theorem d_Mo_send_63 : decode b_Mo_send 63 = .ok (.iaload, 1) := by decide +kernel
theorem d_Mo_send_64 : decode b_Mo_send 64 = .ok (.iconst 2, 1) := by decide +kernel
theorem d_Mo_send_65 : decode b_Mo_send 65 = .ok (.if_icmp .ge 32, 3) := by decide +kernel
theorem d_Mo_send_68 : decode b_Mo_send 68 = .ok (.aload_n 0, 1) := by decide +kernel
theorem d_Mo_send_69 : decode b_Mo_send 69 = .ok (.getfield 71, 3) := by decide +kernel
theorem d_Mo_send_72 : decode b_Mo_send 72 = .ok (.iload_n 2, 1) := by decide +kernel
theorem d_Mo_send_73 : decode b_Mo_send 73 = .ok (.iconst 2, 1) := by decide +kernel
theorem d_Mo_send_74 : decode b_Mo_send 74 = .ok (.imul, 1) := by decide +kernel
theorem d_Mo_send_75 : decode b_Mo_send 75 = .ok (.aload_n 0, 1) := by decide +kernel
theorem d_Mo_send_76 : decode b_Mo_send 76 = .ok (.getfield 74, 3) := by decide +kernel
theorem d_Mo_send_79 : decode b_Mo_send 79 = .ok (.iload_n 2, 1) := by decide +kernel
theorem d_Mo_send_80 : decode b_Mo_send 80 = .ok (.iaload, 1) := by decide +kernel
theorem d_Mo_send_81 : decode b_Mo_send 81 = .ok (.iadd, 1) := by decide +kernel
theorem d_Mo_send_82 : decode b_Mo_send 82 = .ok (.iload_n 3, 1) := by decide +kernel
theorem d_Mo_send_83 : decode b_Mo_send 83 = .ok (.iastore, 1) := by decide +kernel
theorem d_Mo_send_84 : decode b_Mo_send 84 = .ok (.aload_n 0, 1) := by decide +kernel
theorem d_Mo_send_85 : decode b_Mo_send 85 = .ok (.getfield 74, 3) := by decide +kernel
theorem d_Mo_send_88 : decode b_Mo_send 88 = .ok (.iload_n 2, 1) := by decide +kernel
theorem d_Mo_send_89 : decode b_Mo_send 89 = .ok (.dup2, 1) := by decide +kernel
theorem d_Mo_send_90 : decode b_Mo_send 90 = .ok (.iaload, 1) := by decide +kernel
theorem d_Mo_send_91 : decode b_Mo_send 91 = .ok (.iconst 1, 1) := by decide +kernel
theorem d_Mo_send_92 : decode b_Mo_send 92 = .ok (.iadd, 1) := by decide +kernel
theorem d_Mo_send_93 : decode b_Mo_send 93 = .ok (.iastore, 1) := by decide +kernel
theorem d_Mo_send_94 : decode b_Mo_send 94 = .ok (.goto 18, 3) := by decide +kernel
theorem d_Mo_send_97 : decode b_Mo_send 97 = .ok (.aload_n 0, 1) := by decide +kernel
theorem d_Mo_send_98 : decode b_Mo_send 98 = .ok (.getfield 49, 3) := by decide +kernel
theorem d_Mo_send_101 : decode b_Mo_send 101 = .ok (.iload_n 1, 1) := by decide +kernel
theorem d_Mo_send_102 : decode b_Mo_send 102 = .ok (.iload_n 3, 1) := by decide +kernel
theorem d_Mo_send_103 : decode b_Mo_send 103 = .ok (.iastore, 1) := by decide +kernel
theorem d_Mo_send_104 : decode b_Mo_send 104 = .ok (.aload_n 0, 1) := by decide +kernel
theorem d_Mo_send_105 : decode b_Mo_send 105 = .ok (.iload_n 1, 1) := by decide +kernel
theorem d_Mo_send_106 : decode b_Mo_send 106 = .ok (.iconst 2, 1) := by decide +kernel
theorem d_Mo_send_107 : decode b_Mo_send 107 = .ok (.iload_n 2, 1) := by decide +kernel
theorem d_Mo_send_108 : decode b_Mo_send 108 = .ok (.iadd, 1) := by decide +kernel
theorem d_Mo_send_109 : decode b_Mo_send 109 = .ok (.invokevirtual 128, 3) := by decide +kernel
theorem d_Mo_send_112 : decode b_Mo_send 112 = .ok (.return_, 1) := by decide +kernel
theorem d_Mo_receive_0 : decode b_Mo_receive 0 = .ok (.aload_n 0, 1) := by decide +kernel
theorem d_Mo_receive_1 : decode b_Mo_receive 1 = .ok (.getfield 74, 3) := by decide +kernel
theorem d_Mo_receive_4 : decode b_Mo_receive 4 = .ok (.iload_n 2, 1) := by decide +kernel
theorem d_Mo_receive_5 : decode b_Mo_receive 5 = .ok (.iaload, 1) := by decide +kernel
theorem d_Mo_receive_6 : decode b_Mo_receive 6 = .ok (.ifCond .ne 20, 3) := by decide +kernel
theorem d_Mo_receive_9 : decode b_Mo_receive 9 = .ok (.aload_n 0, 1) := by decide +kernel
theorem d_Mo_receive_10 : decode b_Mo_receive 10 = .ok (.getfield 49, 3) := by decide +kernel
theorem d_Mo_receive_13 : decode b_Mo_receive 13 = .ok (.iload_n 1, 1) := by decide +kernel
theorem d_Mo_receive_14 : decode b_Mo_receive 14 = .ok (.iload_n 3, 1) := by decide +kernel
theorem d_Mo_receive_15 : decode b_Mo_receive 15 = .ok (.iastore, 1) := by decide +kernel
theorem d_Mo_receive_16 : decode b_Mo_receive 16 = .ok (.aload_n 0, 1) := by decide +kernel
theorem d_Mo_receive_17 : decode b_Mo_receive 17 = .ok (.iload_n 1, 1) := by decide +kernel
theorem d_Mo_receive_18 : decode b_Mo_receive 18 = .ok (.bipush 6, 2) := by decide +kernel
theorem d_Mo_receive_20 : decode b_Mo_receive 20 = .ok (.iload_n 2, 1) := by decide +kernel
theorem d_Mo_receive_21 : decode b_Mo_receive 21 = .ok (.iadd, 1) := by decide +kernel
theorem d_Mo_receive_22 : decode b_Mo_receive 22 = .ok (.invokevirtual 128, 3) := by decide +kernel
theorem d_Mo_receive_25 : decode b_Mo_receive 25 = .ok (.return_, 1) := by decide +kernel
theorem d_Mo_receive_26 : decode b_Mo_receive 26 = .ok (.aload_n 0, 1) := by decide +kernel
theorem d_Mo_receive_27 : decode b_Mo_receive 27 = .ok (.getfield 52, 3) := by decide +kernel
theorem d_Mo_receive_30 : decode b_Mo_receive 30 = .ok (.iload_n 1, 1) := by decide +kernel
theorem d_Mo_receive_31 : decode b_Mo_receive 31 = .ok (.iconst 4, 1) := by decide +kernel
theorem d_Mo_receive_32 : decode b_Mo_receive 32 = .ok (.imul, 1) := by decide +kernel
theorem d_Mo_receive_33 : decode b_Mo_receive 33 = .ok (.iload_n 3, 1) := by decide +kernel
theorem d_Mo_receive_34 : decode b_Mo_receive 34 = .ok (.iadd, 1) := by decide +kernel
theorem d_Mo_receive_35 : decode b_Mo_receive 35 = .ok (.aload_n 0, 1) := by decide +kernel
theorem d_Mo_receive_36 : decode b_Mo_receive 36 = .ok (.getfield 71, 3) := by decide +kernel
theorem d_Mo_receive_39 : decode b_Mo_receive 39 = .ok (.iload_n 2, 1) := by decide +kernel
theorem d_Mo_receive_40 : decode b_Mo_receive 40 = .ok (.iconst 2, 1) := by decide +kernel
theorem d_Mo_receive_41 : decode b_Mo_receive 41 = .ok (.imul, 1) := by decide +kernel
theorem d_Mo_receive_42 : decode b_Mo_receive 42 = .ok (.iaload, 1) := by decide +kernel
theorem d_Mo_receive_43 : decode b_Mo_receive 43 = .ok (.iastore, 1) := by decide +kernel
theorem d_Mo_receive_44 : decode b_Mo_receive 44 = .ok (.aload_n 0, 1) := by decide +kernel
theorem d_Mo_receive_45 : decode b_Mo_receive 45 = .ok (.getfield 71, 3) := by decide +kernel
theorem d_Mo_receive_48 : decode b_Mo_receive 48 = .ok (.iload_n 2, 1) := by decide +kernel
theorem d_Mo_receive_49 : decode b_Mo_receive 49 = .ok (.iconst 2, 1) := by decide +kernel
theorem d_Mo_receive_50 : decode b_Mo_receive 50 = .ok (.imul, 1) := by decide +kernel
theorem d_Mo_receive_51 : decode b_Mo_receive 51 = .ok (.aload_n 0, 1) := by decide +kernel
theorem d_Mo_receive_52 : decode b_Mo_receive 52 = .ok (.getfield 71, 3) := by decide +kernel
theorem d_Mo_receive_55 : decode b_Mo_receive 55 = .ok (.iload_n 2, 1) := by decide +kernel
theorem d_Mo_receive_56 : decode b_Mo_receive 56 = .ok (.iconst 2, 1) := by decide +kernel
theorem d_Mo_receive_57 : decode b_Mo_receive 57 = .ok (.imul, 1) := by decide +kernel
theorem d_Mo_receive_58 : decode b_Mo_receive 58 = .ok (.iconst 1, 1) := by decide +kernel
theorem d_Mo_receive_59 : decode b_Mo_receive 59 = .ok (.iadd, 1) := by decide +kernel
theorem d_Mo_receive_60 : decode b_Mo_receive 60 = .ok (.iaload, 1) := by decide +kernel
theorem d_Mo_receive_61 : decode b_Mo_receive 61 = .ok (.iastore, 1) := by decide +kernel
theorem d_Mo_receive_62 : decode b_Mo_receive 62 = .ok (.aload_n 0, 1) := by decide +kernel
theorem d_Mo_receive_63 : decode b_Mo_receive 63 = .ok (.getfield 74, 3) := by decide +kernel
theorem d_Mo_receive_66 : decode b_Mo_receive 66 = .ok (.iload_n 2, 1) := by decide +kernel
theorem d_Mo_receive_67 : decode b_Mo_receive 67 = .ok (.dup2, 1) := by decide +kernel
theorem d_Mo_receive_68 : decode b_Mo_receive 68 = .ok (.iaload, 1) := by decide +kernel
theorem d_Mo_receive_69 : decode b_Mo_receive 69 = .ok (.iconst 1, 1) := by decide +kernel
theorem d_Mo_receive_70 : decode b_Mo_receive 70 = .ok (.isub, 1) := by decide +kernel
theorem d_Mo_receive_71 : decode b_Mo_receive 71 = .ok (.iastore, 1) := by decide +kernel
theorem d_Mo_receive_72 : decode b_Mo_receive 72 = .ok (.aload_n 0, 1) := by decide +kernel
theorem d_Mo_receive_73 : decode b_Mo_receive 73 = .ok (.getfield 74, 3) := by decide +kernel
theorem d_Mo_receive_76 : decode b_Mo_receive 76 = .ok (.iload_n 2, 1) := by decide +kernel
theorem d_Mo_receive_77 : decode b_Mo_receive 77 = .ok (.iaload, 1) := by decide +kernel
theorem d_Mo_receive_78 : decode b_Mo_receive 78 = .ok (.iconst 1, 1) := by decide +kernel
theorem d_Mo_receive_79 : decode b_Mo_receive 79 = .ok (.if_icmp .ne 53, 3) := by decide +kernel
theorem d_Mo_receive_82 : decode b_Mo_receive 82 = .ok (.aload_n 0, 1) := by decide +kernel
theorem d_Mo_receive_83 : decode b_Mo_receive 83 = .ok (.getfield 68, 3) := by decide +kernel
theorem d_Mo_receive_86 : decode b_Mo_receive 86 = .ok (.iconst 2, 1) := by decide +kernel
theorem d_Mo_receive_87 : decode b_Mo_receive 87 = .ok (.iload_n 2, 1) := by decide +kernel
theorem d_Mo_receive_88 : decode b_Mo_receive 88 = .ok (.iadd, 1) := by decide +kernel
theorem d_Mo_receive_89 : decode b_Mo_receive 89 = .ok (.iaload, 1) := by decide +kernel
theorem d_Mo_receive_90 : decode b_Mo_receive 90 = .ok (.ifCond .le 42, 3) := by decide +kernel
theorem d_Mo_receive_93 : decode b_Mo_receive 93 = .ok (.aload_n 0, 1) := by decide +kernel
theorem d_Mo_receive_94 : decode b_Mo_receive 94 = .ok (.iconst 2, 1) := by decide +kernel
theorem d_Mo_receive_95 : decode b_Mo_receive 95 = .ok (.iload_n 2, 1) := by decide +kernel
theorem d_Mo_receive_96 : decode b_Mo_receive 96 = .ok (.iadd, 1) := by decide +kernel
theorem d_Mo_receive_97 : decode b_Mo_receive 97 = .ok (.invokevirtual 106, 3) := by decide +kernel
theorem d_Mo_receive_100 : decode b_Mo_receive 100 = .ok (.istore 4, 2) := by decide +kernel
theorem d_Mo_receive_102 : decode b_Mo_receive 102 = .ok (.aload_n 0, 1) := by decide +kernel
theorem d_Mo_receive_103 : decode b_Mo_receive 103 = .ok (.getfield 71, 3) := by decide +kernel
theorem d_Mo_receive_106 : decode b_Mo_receive 106 = .ok (.iload_n 2, 1) := by decide +kernel
theorem d_Mo_receive_107 : decode b_Mo_receive 107 = .ok (.iconst 2, 1) := by decide +kernel
theorem d_Mo_receive_108 : decode b_Mo_receive 108 = .ok (.imul, 1) := by decide +kernel
theorem d_Mo_receive_109 : decode b_Mo_receive 109 = .ok (.iconst 1, 1) := by decide +kernel
theorem d_Mo_receive_110 : decode b_Mo_receive 110 = .ok (.iadd, 1) := by decide +kernel
theorem d_Mo_receive_111 : decode b_Mo_receive 111 = .ok (.aload_n 0, 1) := by decide +kernel
theorem d_Mo_receive_112 : decode b_Mo_receive 112 = .ok (.getfield 49, 3) := by decide +kernel
theorem d_Mo_receive_115 : decode b_Mo_receive 115 = .ok (.iload 4, 2) := by decide +kernel
theorem d_Mo_receive_117 : decode b_Mo_receive 117 = .ok (.iaload, 1) := by decide +kernel
theorem d_Mo_receive_118 : decode b_Mo_receive 118 = .ok (.iastore, 1) := by decide +kernel
theorem d_Mo_receive_119 : decode b_Mo_receive 119 = .ok (.aload_n 0, 1) := by decide +kernel
theorem d_Mo_receive_120 : decode b_Mo_receive 120 = .ok (.getfield 74, 3) := by decide +kernel
theorem d_Mo_receive_123 : decode b_Mo_receive 123 = .ok (.iload_n 2, 1) := by decide +kernel
theorem d_Mo_receive_124 : decode b_Mo_receive 124 = .ok (.iconst 2, 1) := by decide +kernel
theorem d_Mo_receive_125 : decode b_Mo_receive 125 = .ok (.iastore, 1) := by decide +kernel
theorem d_Mo_receive_126 : decode b_Mo_receive 126 = .ok (.aload_n 0, 1) := by decide +kernel
theorem d_Mo_receive_127 : decode b_Mo_receive 127 = .ok (.iload 4, 2) := by decide +kernel
theorem d_Mo_receive_129 : decode b_Mo_receive 129 = .ok (.invokevirtual 98, 3) := by decide +kernel
theorem d_Mo_receive_132 : decode b_Mo_receive 132 = .ok (.return_, 1) := by decide +kernel
theorem d_Mo_perform_0 : decode b_Mo_perform 0 = .ok (.iload_n 1, 1) := by decide +kernel
theorem d_Mo_perform_1 : decode b_Mo_perform 1 = .ok (.iconst 4, 1) := by decide +kernel
theorem d_Mo_perform_2 : decode b_Mo_perform 2 = .ok (.imul, 1) := by decide +kernel
theorem d_Mo_perform_3 : decode b_Mo_perform 3 = .ok (.iload_n 3, 1) := by decide +kernel
