theorem d_La_code_0 : decode b_La_code 0 = .ok (.aload_n 0, 1) := by decide +kernel
theorem d_La_code_1 : decode b_La_code 1 = .ok (.iload_n 1, 1) := by decide +kernel
theorem d_La_code_2 : decode b_La_code 2 = .ok (.iload_n 2, 1) := by decide +kernel
theorem d_La_code_3 : decode b_La_code 3 = .ok (.iload_n 3, 1) := by decide +kernel
theorem d_La_code_4 : decode b_La_code 4 = .ok (.iload 4, 2) := by decide +kernel
theorem d_La_code_6 : decode b_La_code 6 = .ok (.iload 5, 2) := by decide +kernel
theorem d_La_code_8 : decode b_La_code 8 = .ok (.invokevirtual 7, 3) := by decide +kernel
theorem d_La_code_11 : decode b_La_code 11 = .ok (.goto 7, 3) := by decide +kernel
theorem d_La_code_14 : decode b_La_code 14 = .ok (.astore 6, 2) := by decide +kernel
theorem d_La_code_16 : decode b_La_code 16 = .ok (.iconst 1, 1) := by decide +kernel
theorem d_La_code_17 : decode b_La_code 17 = .ok (.ireturn, 1) := by decide +kernel
theorem d_La_code_18 : decode b_La_code 18 = .ok (.iconst 0, 1) := by decide +kernel
theorem d_La_code_19 : decode b_La_code 19 = .ok (.ireturn, 1) := by decide +kernel
theorem d_La_run_0 : decode b_La_run 0 = .ok (.aload_n 2, 1) := by decide +kernel
theorem d_La_run_1 : decode b_La_run 1 = .ok (.iconst 0, 1) := by decide +kernel
theorem d_La_run_2 : decode b_La_run 2 = .ok (.aload_n 0, 1) := by decide +kernel
theorem d_La_run_3 : decode b_La_run 3 = .ok (.iload_n 1, 1) := by decide +kernel
theorem d_La_run_4 : decode b_La_run 4 = .ok (.invokevirtual 15, 3) := by decide +kernel
theorem d_La_run_7 : decode b_La_run 7 = .ok (.i2l, 1) := by decide +kernel
theorem d_La_run_8 : decode b_La_run 8 = .ok (.lastore, 1) := by decide +kernel
theorem d_La_run_9 : decode b_La_run 9 = .ok (.goto 9, 3) := by decide +kernel
theorem d_La_run_12 : decode b_La_run 12 = .ok (.astore_n 3, 1) := by decide +kernel
theorem d_La_run_13 : decode b_La_run 13 = .ok (.iconst 1, 1) := by decide +kernel
theorem d_La_run_14 : decode b_La_run 14 = .ok (.ireturn, 1) := by decide +kernel
theorem d_La_run_15 : decode b_La_run 15 = .ok (.astore_n 3, 1) := by decide +kernel
theorem d_La_run_16 : decode b_La_run 16 = .ok (.iconst 2, 1) := by decide +kernel
theorem d_La_run_17 : decode b_La_run 17 = .ok (.ireturn, 1) := by decide +kernel
theorem d_La_run_18 : decode b_La_run 18 = .ok (.iconst 0, 1) := by decide +kernel
theorem d_La_run_19 : decode b_La_run 19 = .ok (.ireturn, 1) := by decide +kernel
theorem d_La_register_0 : decode b_La_register 0 = .ok (.aload_n 3, 1) := by decide +kernel
theorem d_La_register_1 : decode b_La_register 1 = .ok (.iconst 0, 1) := by decide +kernel
theorem d_La_register_2 : decode b_La_register 2 = .ok (.aload_n 0, 1) := by decide +kernel
theorem d_La_register_3 : decode b_La_register 3 = .ok (.iload_n 1, 1) := by decide +kernel
theorem d_La_register_4 : decode b_La_register 4 = .ok (.iload_n 2, 1) := by decide +kernel
theorem d_La_register_5 : decode b_La_register 5 = .ok (.invokevirtual 21, 3) := by decide +kernel
theorem d_La_register_8 : decode b_La_register 8 = .ok (.i2l, 1) := by decide +kernel
theorem d_La_register_9 : decode b_La_register 9 = .ok (.lastore, 1) := by decide +kernel
theorem d_La_register_10 : decode b_La_register 10 = .ok (.goto 11, 3) := by decide +kernel
theorem d_La_register_13 : decode b_La_register 13 = .ok (.astore 4, 2) := by decide +kernel
theorem d_La_register_15 : decode b_La_register 15 = .ok (.iconst 1, 1) := by decide +kernel
theorem d_La_register_16 : decode b_La_register 16 = .ok (.ireturn, 1) := by decide +kernel
theorem d_La_register_17 : decode b_La_register 17 = .ok (.astore 4, 2) := by decide +kernel
theorem d_La_register_19 : decode b_La_register 19 = .ok (.iconst 2, 1) := by decide +kernel
theorem d_La_register_20 : decode b_La_register 20 = .ok (.ireturn, 1) := by decide +kernel
theorem d_La_register_21 : decode b_La_register 21 = .ok (.iconst 0, 1) := by decide +kernel
theorem d_La_register_22 : decode b_La_register 22 = .ok (.ireturn, 1) := by decide +kernel
theorem d_La_told_0 : decode b_La_told 0 = .ok (.aload_n 3, 1) := by decide +kernel
theorem d_La_told_1 : decode b_La_told 1 = .ok (.iconst 0, 1) := by decide +kernel
theorem d_La_told_2 : decode b_La_told 2 = .ok (.aload_n 0, 1) := by decide +kernel
theorem d_La_told_3 : decode b_La_told 3 = .ok (.iload_n 1, 1) := by decide +kernel
theorem d_La_told_4 : decode b_La_told 4 = .ok (.iload_n 2, 1) := by decide +kernel
theorem d_La_told_5 : decode b_La_told 5 = .ok (.invokevirtual 27, 3) := by decide +kernel
theorem d_La_told_8 : decode b_La_told 8 = .ok (.i2l, 1) := by decide +kernel
theorem d_La_told_9 : decode b_La_told 9 = .ok (.lastore, 1) := by decide +kernel
theorem d_La_told_10 : decode b_La_told 10 = .ok (.goto 11, 3) := by decide +kernel
theorem d_La_told_13 : decode b_La_told 13 = .ok (.astore 4, 2) := by decide +kernel
theorem d_La_told_15 : decode b_La_told 15 = .ok (.iconst 1, 1) := by decide +kernel
theorem d_La_told_16 : decode b_La_told 16 = .ok (.ireturn, 1) := by decide +kernel
theorem d_La_told_17 : decode b_La_told 17 = .ok (.astore 4, 2) := by decide +kernel
theorem d_La_told_19 : decode b_La_told 19 = .ok (.iconst 2, 1) := by decide +kernel
theorem d_La_told_20 : decode b_La_told 20 = .ok (.ireturn, 1) := by decide +kernel
theorem d_La_told_21 : decode b_La_told 21 = .ok (.iconst 0, 1) := by decide +kernel
theorem d_La_told_22 : decode b_La_told 22 = .ok (.ireturn, 1) := by decide +kernel
theorem d_La_page_0 : decode b_La_page 0 = .ok (.aload_n 3, 1) := by decide +kernel
theorem d_La_page_1 : decode b_La_page 1 = .ok (.iconst 0, 1) := by decide +kernel
theorem d_La_page_2 : decode b_La_page 2 = .ok (.aload_n 0, 1) := by decide +kernel
theorem d_La_page_3 : decode b_La_page 3 = .ok (.iload_n 1, 1) := by decide +kernel
theorem d_La_page_4 : decode b_La_page 4 = .ok (.iload_n 2, 1) := by decide +kernel
theorem d_La_page_5 : decode b_La_page 5 = .ok (.invokevirtual 30, 3) := by decide +kernel
theorem d_La_page_8 : decode b_La_page 8 = .ok (.i2l, 1) := by decide +kernel
theorem d_La_page_9 : decode b_La_page 9 = .ok (.lastore, 1) := by decide +kernel
theorem d_La_page_10 : decode b_La_page 10 = .ok (.goto 11, 3) := by decide +kernel
theorem d_La_page_13 : decode b_La_page 13 = .ok (.astore 4, 2) := by decide +kernel
theorem d_La_page_15 : decode b_La_page 15 = .ok (.iconst 1, 1) := by decide +kernel
theorem d_La_page_16 : decode b_La_page 16 = .ok (.ireturn, 1) := by decide +kernel
theorem d_La_page_17 : decode b_La_page 17 = .ok (.astore 4, 2) := by decide +kernel
theorem d_La_page_19 : decode b_La_page 19 = .ok (.iconst 2, 1) := by decide +kernel
theorem d_La_page_20 : decode b_La_page 20 = .ok (.ireturn, 1) := by decide +kernel
theorem d_La_page_21 : decode b_La_page 21 = .ok (.iconst 0, 1) := by decide +kernel
theorem d_La_page_22 : decode b_La_page 22 = .ok (.ireturn, 1) := by decide +kernel
theorem d_La_memory_0 : decode b_La_memory 0 = .ok (.aload_n 3, 1) := by decide +kernel
theorem d_La_memory_1 : decode b_La_memory 1 = .ok (.iconst 0, 1) := by decide +kernel
theorem d_La_memory_2 : decode b_La_memory 2 = .ok (.aload_n 0, 1) := by decide +kernel
theorem d_La_memory_3 : decode b_La_memory 3 = .ok (.iload_n 1, 1) := by decide +kernel
theorem d_La_memory_4 : decode b_La_memory 4 = .ok (.iload_n 2, 1) := by decide +kernel
theorem d_La_memory_5 : decode b_La_memory 5 = .ok (.invokevirtual 33, 3) := by decide +kernel
theorem d_La_memory_8 : decode b_La_memory 8 = .ok (.i2l, 1) := by decide +kernel
theorem d_La_memory_9 : decode b_La_memory 9 = .ok (.lastore, 1) := by decide +kernel
theorem d_La_memory_10 : decode b_La_memory 10 = .ok (.goto 7, 3) := by decide +kernel
theorem d_La_memory_13 : decode b_La_memory 13 = .ok (.astore 4, 2) := by decide +kernel
theorem d_La_memory_15 : decode b_La_memory 15 = .ok (.iconst 1, 1) := by decide +kernel
theorem d_La_memory_16 : decode b_La_memory 16 = .ok (.ireturn, 1) := by decide +kernel
theorem d_La_memory_17 : decode b_La_memory 17 = .ok (.iconst 0, 1) := by decide +kernel
theorem d_La_memory_18 : decode b_La_memory 18 = .ok (.ireturn, 1) := by decide +kernel
theorem d_La_object_0 : decode b_La_object 0 = .ok (.aload_n 3, 1) := by decide +kernel
theorem d_La_object_1 : decode b_La_object 1 = .ok (.iconst 0, 1) := by decide +kernel
theorem d_La_object_2 : decode b_La_object 2 = .ok (.aload_n 0, 1) := by decide +kernel
theorem d_La_object_3 : decode b_La_object 3 = .ok (.iload_n 1, 1) := by decide +kernel
theorem d_La_object_4 : decode b_La_object 4 = .ok (.iload_n 2, 1) := by decide +kernel
theorem d_La_object_5 : decode b_La_object 5 = .ok (.invokevirtual 36, 3) := by decide +kernel
theorem d_La_object_8 : decode b_La_object 8 = .ok (.i2l, 1) := by decide +kernel
theorem d_La_object_9 : decode b_La_object 9 = .ok (.lastore, 1) := by decide +kernel
theorem d_La_object_10 : decode b_La_object 10 = .ok (.goto 7, 3) := by decide +kernel
theorem d_La_object_13 : decode b_La_object 13 = .ok (.astore 4, 2) := by decide +kernel
theorem d_La_object_15 : decode b_La_object 15 = .ok (.iconst 1, 1) := by decide +kernel
theorem d_La_object_16 : decode b_La_object 16 = .ok (.ireturn, 1) := by decide +kernel
theorem d_La_object_17 : decode b_La_object 17 = .ok (.iconst 0, 1) := by decide +kernel
theorem d_La_object_18 : decode b_La_object 18 = .ok (.ireturn, 1) := by decide +kernel
theorem d_La_written_0 : decode b_La_written 0 = .ok (.aload_n 3, 1) := by decide +kernel
theorem d_La_written_1 : decode b_La_written 1 = .ok (.iconst 0, 1) := by decide +kernel
theorem d_La_written_2 : decode b_La_written 2 = .ok (.aload_n 0, 1) := by decide +kernel
theorem d_La_written_3 : decode b_La_written 3 = .ok (.iload_n 1, 1) := by decide +kernel
theorem d_La_written_4 : decode b_La_written 4 = .ok (.iload_n 2, 1) := by decide +kernel
theorem d_La_written_5 : decode b_La_written 5 = .ok (.invokevirtual 39, 3) := by decide +kernel
theorem d_La_written_8 : decode b_La_written 8 = .ok (.i2l, 1) := by decide +kernel
theorem d_La_written_9 : decode b_La_written 9 = .ok (.lastore, 1) := by decide +kernel
theorem d_La_written_10 : decode b_La_written 10 = .ok (.goto 7, 3) := by decide +kernel
theorem d_La_written_13 : decode b_La_written 13 = .ok (.astore 4, 2) := by decide +kernel
theorem d_La_written_15 : decode b_La_written 15 = .ok (.iconst 1, 1) := by decide +kernel
theorem d_La_written_16 : decode b_La_written 16 = .ok (.ireturn, 1) := by decide +kernel
theorem d_La_written_17 : decode b_La_written 17 = .ok (.iconst 0, 1) := by decide +kernel
theorem d_La_written_18 : decode b_La_written 18 = .ok (.ireturn, 1) := by decide +kernel
theorem d_La_law_0 : decode code 0 = .ok (.new 8, 3) := by decide +kernel
theorem d_La_law_3 : decode code 3 = .ok (.dup, 1) := by decide +kernel
theorem d_La_law_4 : decode code 4 = .ok (.invokespecial 42, 3) := by decide +kernel
theorem d_La_law_7 : decode code 7 = .ok (.astore_n 1, 1) := by decide +kernel
theorem d_La_law_8 : decode code 8 = .ok (.new 43, 3) := by decide +kernel
theorem d_La_law_11 : decode code 11 = .ok (.dup, 1) := by decide +kernel
theorem d_La_law_12 : decode code 12 = .ok (.invokespecial 45, 3) := by decide +kernel
theorem d_La_law_15 : decode code 15 = .ok (.astore_n 2, 1) := by decide +kernel
theorem d_La_law_16 : decode code 16 = .ok (.iconst 1, 1) := by decide +kernel
theorem d_La_law_17 : decode code 17 = .ok (.newarray .long, 2) := by decide +kernel
theorem d_La_law_19 : decode code 19 = .ok (.astore_n 3, 1) := by decide +kernel
theorem d_La_law_20 : decode code 20 = .ok (.iconst 0, 1) := by decide +kernel
theorem d_La_law_21 : decode code 21 = .ok (.istore 4, 2) := by decide +kernel
theorem d_La_law_23 : decode code 23 = .ok (.iload 4, 2) := by decide +kernel
theorem d_La_law_25 : decode code 25 = .ok (.aload_n 0, 1) := by decide +kernel
theorem d_La_law_26 : decode code 26 = .ok (.arraylength, 1) := by decide +kernel
theorem d_La_law_27 : decode code 27 = .ok (.bipush 6, 2) := by decide +kernel
theorem d_La_law_29 : decode code 29 = .ok (.isub, 1) := by decide +kernel
theorem d_La_law_30 : decode code 30 = .ok (.if_icmp .gt 641, 3) := by decide +kernel
theorem d_La_law_33 : decode code 33 = .ok (.aload_n 0, 1) := by decide +kernel
theorem d_La_law_34 : decode code 34 = .ok (.iload 4, 2) := by decide +kernel
theorem d_La_law_36 : decode code 36 = .ok (.iaload, 1) := by decide +kernel
theorem d_La_law_37 : decode code 37 = .ok (.bipush 15, 2) := by decide +kernel
theorem d_La_law_39 : decode code 39 = .ok (.iand, 1) := by decide +kernel
theorem d_La_law_40 : decode code 40 = .ok (.tableswitch 625 0 8 #[52, 136, 192, 260, 328, 396, 464, 532, 600], 52) := by decide +kernel
theorem d_La_law_92 : decode code 92 = .ok (.aload_n 1, 1) := by decide +kernel
theorem d_La_law_93 : decode code 93 = .ok (.aload_n 0, 1) := by decide +kernel
theorem d_La_law_94 : decode code 94 = .ok (.iload 4, 2) := by decide +kernel
theorem d_La_law_96 : decode code 96 = .ok (.iconst 1, 1) := by decide +kernel
theorem d_La_law_97 : decode code 97 = .ok (.iadd, 1) := by decide +kernel
theorem d_La_law_98 : decode code 98 = .ok (.iaload, 1) := by decide +kernel
theorem d_La_law_99 : decode code 99 = .ok (.aload_n 0, 1) := by decide +kernel
theorem d_La_law_100 : decode code 100 = .ok (.iload 4, 2) := by decide +kernel
theorem d_La_law_102 : decode code 102 = .ok (.iconst 2, 1) := by decide +kernel
theorem d_La_law_103 : decode code 103 = .ok (.iadd, 1) := by decide +kernel
theorem d_La_law_104 : decode code 104 = .ok (.iaload, 1) := by decide +kernel
theorem d_La_law_105 : decode code 105 = .ok (.aload_n 0, 1) := by decide +kernel
theorem d_La_law_106 : decode code 106 = .ok (.iload 4, 2) := by decide +kernel
theorem d_La_law_108 : decode code 108 = .ok (.iconst 3, 1) := by decide +kernel
theorem d_La_law_109 : decode code 109 = .ok (.iadd, 1) := by decide +kernel
theorem d_La_law_110 : decode code 110 = .ok (.iaload, 1) := by decide +kernel
theorem d_La_law_111 : decode code 111 = .ok (.aload_n 0, 1) := by decide +kernel
theorem d_La_law_112 : decode code 112 = .ok (.iload 4, 2) := by decide +kernel
theorem d_La_law_114 : decode code 114 = .ok (.iconst 4, 1) := by decide +kernel
theorem d_La_law_115 : decode code 115 = .ok (.iadd, 1) := by decide +kernel
theorem d_La_law_116 : decode code 116 = .ok (.iaload, 1) := by decide +kernel
theorem d_La_law_117 : decode code 117 = .ok (.aload_n 0, 1) := by decide +kernel
theorem d_La_law_118 : decode code 118 = .ok (.iload 4, 2) := by decide +kernel
theorem d_La_law_120 : decode code 120 = .ok (.iconst 5, 1) := by decide +kernel
theorem d_La_law_121 : decode code 121 = .ok (.iadd, 1) := by decide +kernel
theorem d_La_law_122 : decode code 122 = .ok (.iaload, 1) := by decide +kernel
theorem d_La_law_123 : decode code 123 = .ok (.invokestatic 46, 3) := by decide +kernel
theorem d_La_law_126 : decode code 126 = .ok (.istore 5, 2) := by decide +kernel
theorem d_La_law_128 : decode code 128 = .ok (.aload_n 2, 1) := by decide +kernel
theorem d_La_law_129 : decode code 129 = .ok (.aload_n 0, 1) := by decide +kernel
theorem d_La_law_130 : decode code 130 = .ok (.iload 4, 2) := by decide +kernel
theorem d_La_law_132 : decode code 132 = .ok (.iconst 1, 1) := by decide +kernel
theorem d_La_law_133 : decode code 133 = .ok (.iadd, 1) := by decide +kernel
theorem d_La_law_134 : decode code 134 = .ok (.iaload, 1) := by decide +kernel
theorem d_La_law_135 : decode code 135 = .ok (.aload_n 0, 1) := by decide +kernel
theorem d_La_law_136 : decode code 136 = .ok (.iload 4, 2) := by decide +kernel
theorem d_La_law_138 : decode code 138 = .ok (.iconst 2, 1) := by decide +kernel
theorem d_La_law_139 : decode code 139 = .ok (.iadd, 1) := by decide +kernel
theorem d_La_law_140 : decode code 140 = .ok (.iaload, 1) := by decide +kernel
theorem d_La_law_141 : decode code 141 = .ok (.aload_n 0, 1) := by decide +kernel
theorem d_La_law_142 : decode code 142 = .ok (.iload 4, 2) := by decide +kernel
theorem d_La_law_144 : decode code 144 = .ok (.iconst 3, 1) := by decide +kernel
theorem d_La_law_145 : decode code 145 = .ok (.iadd, 1) := by decide +kernel
theorem d_La_law_146 : decode code 146 = .ok (.iaload, 1) := by decide +kernel
theorem d_La_law_147 : decode code 147 = .ok (.aload_n 0, 1) := by decide +kernel
theorem d_La_law_148 : decode code 148 = .ok (.iload 4, 2) := by decide +kernel
theorem d_La_law_150 : decode code 150 = .ok (.iconst 4, 1) := by decide +kernel
theorem d_La_law_151 : decode code 151 = .ok (.iadd, 1) := by decide +kernel
theorem d_La_law_152 : decode code 152 = .ok (.iaload, 1) := by decide +kernel
theorem d_La_law_153 : decode code 153 = .ok (.aload_n 0, 1) := by decide +kernel
theorem d_La_law_154 : decode code 154 = .ok (.iload 4, 2) := by decide +kernel
theorem d_La_law_156 : decode code 156 = .ok (.iconst 5, 1) := by decide +kernel
theorem d_La_law_157 : decode code 157 = .ok (.iadd, 1) := by decide +kernel
theorem d_La_law_158 : decode code 158 = .ok (.iaload, 1) := by decide +kernel
theorem d_La_law_159 : decode code 159 = .ok (.invokevirtual 51, 3) := by decide +kernel
theorem d_La_law_162 : decode code 162 = .ok (.aload_n 2, 1) := by decide +kernel
theorem d_La_law_163 : decode code 163 = .ok (.invokevirtual 52, 3) := by decide +kernel
theorem d_La_law_166 : decode code 166 = .ok (.iload 5, 2) := by decide +kernel
theorem d_La_law_168 : decode code 168 = .ok (.if_icmp .eq 5, 3) := by decide +kernel
theorem d_La_law_171 : decode code 171 = .ok (.iconst 0, 1) := by decide +kernel
theorem d_La_law_172 : decode code 172 = .ok (.ireturn, 1) := by decide +kernel
theorem d_La_law_173 : decode code 173 = .ok (.goto 492, 3) := by decide +kernel
theorem d_La_law_176 : decode code 176 = .ok (.aload_n 1, 1) := by decide +kernel
theorem d_La_law_177 : decode code 177 = .ok (.aload_n 0, 1) := by decide +kernel
theorem d_La_law_178 : decode code 178 = .ok (.iload 4, 2) := by decide +kernel
theorem d_La_law_180 : decode code 180 = .ok (.iconst 1, 1) := by decide +kernel
theorem d_La_law_181 : decode code 181 = .ok (.iadd, 1) := by decide +kernel
theorem d_La_law_182 : decode code 182 = .ok (.iaload, 1) := by decide +kernel
theorem d_La_law_183 : decode code 183 = .ok (.aload_n 3, 1) := by decide +kernel
theorem d_La_law_184 : decode code 184 = .ok (.invokestatic 56, 3) := by decide +kernel
theorem d_La_law_187 : decode code 187 = .ok (.istore 5, 2) := by decide +kernel
theorem d_La_law_189 : decode code 189 = .ok (.aload_n 2, 1) := by decide +kernel
theorem d_La_law_190 : decode code 190 = .ok (.aload_n 0, 1) := by decide +kernel
theorem d_La_law_191 : decode code 191 = .ok (.iload 4, 2) := by decide +kernel
theorem d_La_law_193 : decode code 193 = .ok (.iconst 1, 1) := by decide +kernel
theorem d_La_law_194 : decode code 194 = .ok (.iadd, 1) := by decide +kernel
theorem d_La_law_195 : decode code 195 = .ok (.iaload, 1) := by decide +kernel
theorem d_La_law_196 : decode code 196 = .ok (.invokevirtual 59, 3) := by decide +kernel
theorem d_La_law_199 : decode code 199 = .ok (.istore 6, 2) := by decide +kernel
theorem d_La_law_201 : decode code 201 = .ok (.aload_n 2, 1) := by decide +kernel
theorem d_La_law_202 : decode code 202 = .ok (.invokevirtual 52, 3) := by decide +kernel
theorem d_La_law_205 : decode code 205 = .ok (.iload 5, 2) := by decide +kernel
theorem d_La_law_207 : decode code 207 = .ok (.if_icmp .eq 5, 3) := by decide +kernel
theorem d_La_law_210 : decode code 210 = .ok (.iconst 0, 1) := by decide +kernel
theorem d_La_law_211 : decode code 211 = .ok (.ireturn, 1) := by decide +kernel
theorem d_La_law_212 : decode code 212 = .ok (.iload 5, 2) := by decide +kernel
theorem d_La_law_214 : decode code 214 = .ok (.ifCond .ne 15, 3) := by decide +kernel
theorem d_La_law_217 : decode code 217 = .ok (.aload_n 3, 1) := by decide +kernel
theorem d_La_law_218 : decode code 218 = .ok (.iconst 0, 1) := by decide +kernel
theorem d_La_law_219 : decode code 219 = .ok (.laload, 1) := by decide +kernel
theorem d_La_law_220 : decode code 220 = .ok (.iload 6, 2) := by decide +kernel
theorem d_La_law_222 : decode code 222 = .ok (.i2l, 1) := by decide +kernel
theorem d_La_law_223 : decode code 223 = .ok (.lcmp, 1) := by decide +kernel
theorem d_La_law_224 : decode code 224 = .ok (.ifCond .eq 5, 3) := by decide +kernel
theorem d_La_law_227 : decode code 227 = .ok (.iconst 0, 1) := by decide +kernel
theorem d_La_law_228 : decode code 228 = .ok (.ireturn, 1) := by decide +kernel
theorem d_La_law_229 : decode code 229 = .ok (.goto 436, 3) := by decide +kernel
theorem d_La_law_232 : decode code 232 = .ok (.aload_n 1, 1) := by decide +kernel
theorem d_La_law_233 : decode code 233 = .ok (.aload_n 0, 1) := by decide +kernel
theorem d_La_law_234 : decode code 234 = .ok (.iload 4, 2) := by decide +kernel
theorem d_La_law_236 : decode code 236 = .ok (.iconst 1, 1) := by decide +kernel
theorem d_La_law_237 : decode code 237 = .ok (.iadd, 1) := by decide +kernel
theorem d_La_law_238 : decode code 238 = .ok (.iaload, 1) := by decide +kernel
theorem d_La_law_239 : decode code 239 = .ok (.aload_n 0, 1) := by decide +kernel
theorem d_La_law_240 : decode code 240 = .ok (.iload 4, 2) := by decide +kernel
theorem d_La_law_242 : decode code 242 = .ok (.iconst 2, 1) := by decide +kernel
theorem d_La_law_243 : decode code 243 = .ok (.iadd, 1) := by decide +kernel
theorem d_La_law_244 : decode code 244 = .ok (.iaload, 1) := by decide +kernel
theorem d_La_law_245 : decode code 245 = .ok (.aload_n 3, 1) := by decide +kernel
theorem d_La_law_246 : decode code 246 = .ok (.invokestatic 60, 3) := by decide +kernel
theorem d_La_law_249 : decode code 249 = .ok (.istore 5, 2) := by decide +kernel
theorem d_La_law_251 : decode code 251 = .ok (.aload_n 2, 1) := by decide +kernel
theorem d_La_law_252 : decode code 252 = .ok (.aload_n 0, 1) := by decide +kernel
theorem d_La_law_253 : decode code 253 = .ok (.iload 4, 2) := by decide +kernel
theorem d_La_law_255 : decode code 255 = .ok (.iconst 1, 1) := by decide +kernel
theorem d_La_law_256 : decode code 256 = .ok (.iadd, 1) := by decide +kernel
theorem d_La_law_257 : decode code 257 = .ok (.iaload, 1) := by decide +kernel
theorem d_La_law_258 : decode code 258 = .ok (.aload_n 0, 1) := by decide +kernel
theorem d_La_law_259 : decode code 259 = .ok (.iload 4, 2) := by decide +kernel
theorem d_La_law_261 : decode code 261 = .ok (.iconst 2, 1) := by decide +kernel
theorem d_La_law_262 : decode code 262 = .ok (.iadd, 1) := by decide +kernel
theorem d_La_law_263 : decode code 263 = .ok (.iaload, 1) := by decide +kernel
theorem d_La_law_264 : decode code 264 = .ok (.invokevirtual 63, 3) := by decide +kernel
theorem d_La_law_267 : decode code 267 = .ok (.istore 6, 2) := by decide +kernel
theorem d_La_law_269 : decode code 269 = .ok (.aload_n 2, 1) := by decide +kernel
theorem d_La_law_270 : decode code 270 = .ok (.invokevirtual 52, 3) := by decide +kernel
theorem d_La_law_273 : decode code 273 = .ok (.iload 5, 2) := by decide +kernel
theorem d_La_law_275 : decode code 275 = .ok (.if_icmp .eq 5, 3) := by decide +kernel
theorem d_La_law_278 : decode code 278 = .ok (.iconst 0, 1) := by decide +kernel
theorem d_La_law_279 : decode code 279 = .ok (.ireturn, 1) := by decide +kernel
theorem d_La_law_280 : decode code 280 = .ok (.iload 5, 2) := by decide +kernel
theorem d_La_law_282 : decode code 282 = .ok (.ifCond .ne 15, 3) := by decide +kernel
theorem d_La_law_285 : decode code 285 = .ok (.aload_n 3, 1) := by decide +kernel
theorem d_La_law_286 : decode code 286 = .ok (.iconst 0, 1) := by decide +kernel
theorem d_La_law_287 : decode code 287 = .ok (.laload, 1) := by decide +kernel
theorem d_La_law_288 : decode code 288 = .ok (.iload 6, 2) := by decide +kernel
theorem d_La_law_290 : decode code 290 = .ok (.i2l, 1) := by decide +kernel
theorem d_La_law_291 : decode code 291 = .ok (.lcmp, 1) := by decide +kernel
theorem d_La_law_292 : decode code 292 = .ok (.ifCond .eq 5, 3) := by decide +kernel
theorem d_La_law_295 : decode code 295 = .ok (.iconst 0, 1) := by decide +kernel
theorem d_La_law_296 : decode code 296 = .ok (.ireturn, 1) := by decide +kernel
theorem d_La_law_297 : decode code 297 = .ok (.goto 368, 3) := by decide +kernel
theorem d_La_law_300 : decode code 300 = .ok (.aload_n 1, 1) := by decide +kernel
theorem d_La_law_301 : decode code 301 = .ok (.aload_n 0, 1) := by decide +kernel
theorem d_La_law_302 : decode code 302 = .ok (.iload 4, 2) := by decide +kernel
theorem d_La_law_304 : decode code 304 = .ok (.iconst 1, 1) := by decide +kernel
theorem d_La_law_305 : decode code 305 = .ok (.iadd, 1) := by decide +kernel
theorem d_La_law_306 : decode code 306 = .ok (.iaload, 1) := by decide +kernel
theorem d_La_law_307 : decode code 307 = .ok (.aload_n 0, 1) := by decide +kernel
theorem d_La_law_308 : decode code 308 = .ok (.iload 4, 2) := by decide +kernel
theorem d_La_law_310 : decode code 310 = .ok (.iconst 2, 1) := by decide +kernel
theorem d_La_law_311 : decode code 311 = .ok (.iadd, 1) := by decide +kernel
theorem d_La_law_312 : decode code 312 = .ok (.iaload, 1) := by decide +kernel
theorem d_La_law_313 : decode code 313 = .ok (.aload_n 3, 1) := by decide +kernel
theorem d_La_law_314 : decode code 314 = .ok (.invokestatic 64, 3) := by decide +kernel
theorem d_La_law_317 : decode code 317 = .ok (.istore 5, 2) := by decide +kernel
theorem d_La_law_319 : decode code 319 = .ok (.aload_n 2, 1) := by decide +kernel
theorem d_La_law_320 : decode code 320 = .ok (.aload_n 0, 1) := by decide +kernel
theorem d_La_law_321 : decode code 321 = .ok (.iload 4, 2) := by decide +kernel
theorem d_La_law_323 : decode code 323 = .ok (.iconst 1, 1) := by decide +kernel
theorem d_La_law_324 : decode code 324 = .ok (.iadd, 1) := by decide +kernel
theorem d_La_law_325 : decode code 325 = .ok (.iaload, 1) := by decide +kernel
theorem d_La_law_326 : decode code 326 = .ok (.aload_n 0, 1) := by decide +kernel
theorem d_La_law_327 : decode code 327 = .ok (.iload 4, 2) := by decide +kernel
theorem d_La_law_329 : decode code 329 = .ok (.iconst 2, 1) := by decide +kernel
theorem d_La_law_330 : decode code 330 = .ok (.iadd, 1) := by decide +kernel
theorem d_La_law_331 : decode code 331 = .ok (.iaload, 1) := by decide +kernel
theorem d_La_law_332 : decode code 332 = .ok (.invokevirtual 66, 3) := by decide +kernel
theorem d_La_law_335 : decode code 335 = .ok (.istore 6, 2) := by decide +kernel
theorem d_La_law_337 : decode code 337 = .ok (.aload_n 2, 1) := by decide +kernel
theorem d_La_law_338 : decode code 338 = .ok (.invokevirtual 52, 3) := by decide +kernel
theorem d_La_law_341 : decode code 341 = .ok (.iload 5, 2) := by decide +kernel
theorem d_La_law_343 : decode code 343 = .ok (.if_icmp .eq 5, 3) := by decide +kernel
theorem d_La_law_346 : decode code 346 = .ok (.iconst 0, 1) := by decide +kernel
theorem d_La_law_347 : decode code 347 = .ok (.ireturn, 1) := by decide +kernel
theorem d_La_law_348 : decode code 348 = .ok (.iload 5, 2) := by decide +kernel
theorem d_La_law_350 : decode code 350 = .ok (.ifCond .ne 15, 3) := by decide +kernel
theorem d_La_law_353 : decode code 353 = .ok (.aload_n 3, 1) := by decide +kernel
theorem d_La_law_354 : decode code 354 = .ok (.iconst 0, 1) := by decide +kernel
theorem d_La_law_355 : decode code 355 = .ok (.laload, 1) := by decide +kernel
theorem d_La_law_356 : decode code 356 = .ok (.iload 6, 2) := by decide +kernel
theorem d_La_law_358 : decode code 358 = .ok (.i2l, 1) := by decide +kernel
theorem d_La_law_359 : decode code 359 = .ok (.lcmp, 1) := by decide +kernel
theorem d_La_law_360 : decode code 360 = .ok (.ifCond .eq 5, 3) := by decide +kernel
theorem d_La_law_363 : decode code 363 = .ok (.iconst 0, 1) := by decide +kernel
theorem d_La_law_364 : decode code 364 = .ok (.ireturn, 1) := by decide +kernel
theorem d_La_law_365 : decode code 365 = .ok (.goto 300, 3) := by decide +kernel
theorem d_La_law_368 : decode code 368 = .ok (.aload_n 1, 1) := by decide +kernel
theorem d_La_law_369 : decode code 369 = .ok (.aload_n 0, 1) := by decide +kernel
theorem d_La_law_370 : decode code 370 = .ok (.iload 4, 2) := by decide +kernel
theorem d_La_law_372 : decode code 372 = .ok (.iconst 1, 1) := by decide +kernel
theorem d_La_law_373 : decode code 373 = .ok (.iadd, 1) := by decide +kernel
theorem d_La_law_374 : decode code 374 = .ok (.iaload, 1) := by decide +kernel
theorem d_La_law_375 : decode code 375 = .ok (.aload_n 0, 1) := by decide +kernel
theorem d_La_law_376 : decode code 376 = .ok (.iload 4, 2) := by decide +kernel
theorem d_La_law_378 : decode code 378 = .ok (.iconst 2, 1) := by decide +kernel
theorem d_La_law_379 : decode code 379 = .ok (.iadd, 1) := by decide +kernel
theorem d_La_law_380 : decode code 380 = .ok (.iaload, 1) := by decide +kernel
theorem d_La_law_381 : decode code 381 = .ok (.aload_n 3, 1) := by decide +kernel
theorem d_La_law_382 : decode code 382 = .ok (.invokestatic 67, 3) := by decide +kernel
theorem d_La_law_385 : decode code 385 = .ok (.istore 5, 2) := by decide +kernel
theorem d_La_law_387 : decode code 387 = .ok (.aload_n 2, 1) := by decide +kernel
theorem d_La_law_388 : decode code 388 = .ok (.aload_n 0, 1) := by decide +kernel
theorem d_La_law_389 : decode code 389 = .ok (.iload 4, 2) := by decide +kernel
theorem d_La_law_391 : decode code 391 = .ok (.iconst 1, 1) := by decide +kernel
theorem d_La_law_392 : decode code 392 = .ok (.iadd, 1) := by decide +kernel
theorem d_La_law_393 : decode code 393 = .ok (.iaload, 1) := by decide +kernel
theorem d_La_law_394 : decode code 394 = .ok (.aload_n 0, 1) := by decide +kernel
theorem d_La_law_395 : decode code 395 = .ok (.iload 4, 2) := by decide +kernel
theorem d_La_law_397 : decode code 397 = .ok (.iconst 2, 1) := by decide +kernel
theorem d_La_law_398 : decode code 398 = .ok (.iadd, 1) := by decide +kernel
theorem d_La_law_399 : decode code 399 = .ok (.iaload, 1) := by decide +kernel
theorem d_La_law_400 : decode code 400 = .ok (.invokevirtual 69, 3) := by decide +kernel
theorem d_La_law_403 : decode code 403 = .ok (.istore 6, 2) := by decide +kernel
theorem d_La_law_405 : decode code 405 = .ok (.aload_n 2, 1) := by decide +kernel
theorem d_La_law_406 : decode code 406 = .ok (.invokevirtual 52, 3) := by decide +kernel
theorem d_La_law_409 : decode code 409 = .ok (.iload 5, 2) := by decide +kernel
theorem d_La_law_411 : decode code 411 = .ok (.if_icmp .eq 5, 3) := by decide +kernel
theorem d_La_law_414 : decode code 414 = .ok (.iconst 0, 1) := by decide +kernel
theorem d_La_law_415 : decode code 415 = .ok (.ireturn, 1) := by decide +kernel
theorem d_La_law_416 : decode code 416 = .ok (.iload 5, 2) := by decide +kernel
theorem d_La_law_418 : decode code 418 = .ok (.ifCond .ne 15, 3) := by decide +kernel
theorem d_La_law_421 : decode code 421 = .ok (.aload_n 3, 1) := by decide +kernel
theorem d_La_law_422 : decode code 422 = .ok (.iconst 0, 1) := by decide +kernel
theorem d_La_law_423 : decode code 423 = .ok (.laload, 1) := by decide +kernel
theorem d_La_law_424 : decode code 424 = .ok (.iload 6, 2) := by decide +kernel
theorem d_La_law_426 : decode code 426 = .ok (.i2l, 1) := by decide +kernel
theorem d_La_law_427 : decode code 427 = .ok (.lcmp, 1) := by decide +kernel
theorem d_La_law_428 : decode code 428 = .ok (.ifCond .eq 5, 3) := by decide +kernel
theorem d_La_law_431 : decode code 431 = .ok (.iconst 0, 1) := by decide +kernel
theorem d_La_law_432 : decode code 432 = .ok (.ireturn, 1) := by decide +kernel
theorem d_La_law_433 : decode code 433 = .ok (.goto 232, 3) := by decide +kernel
theorem d_La_law_436 : decode code 436 = .ok (.aload_n 1, 1) := by decide +kernel
theorem d_La_law_437 : decode code 437 = .ok (.aload_n 0, 1) := by decide +kernel
theorem d_La_law_438 : decode code 438 = .ok (.iload 4, 2) := by decide +kernel
theorem d_La_law_440 : decode code 440 = .ok (.iconst 1, 1) := by decide +kernel
theorem d_La_law_441 : decode code 441 = .ok (.iadd, 1) := by decide +kernel
theorem d_La_law_442 : decode code 442 = .ok (.iaload, 1) := by decide +kernel
theorem d_La_law_443 : decode code 443 = .ok (.aload_n 0, 1) := by decide +kernel
theorem d_La_law_444 : decode code 444 = .ok (.iload 4, 2) := by decide +kernel
theorem d_La_law_446 : decode code 446 = .ok (.iconst 2, 1) := by decide +kernel
theorem d_La_law_447 : decode code 447 = .ok (.iadd, 1) := by decide +kernel
theorem d_La_law_448 : decode code 448 = .ok (.iaload, 1) := by decide +kernel
theorem d_La_law_449 : decode code 449 = .ok (.aload_n 3, 1) := by decide +kernel
theorem d_La_law_450 : decode code 450 = .ok (.invokestatic 70, 3) := by decide +kernel
theorem d_La_law_453 : decode code 453 = .ok (.istore 5, 2) := by decide +kernel
theorem d_La_law_455 : decode code 455 = .ok (.aload_n 2, 1) := by decide +kernel
theorem d_La_law_456 : decode code 456 = .ok (.aload_n 0, 1) := by decide +kernel
theorem d_La_law_457 : decode code 457 = .ok (.iload 4, 2) := by decide +kernel
theorem d_La_law_459 : decode code 459 = .ok (.iconst 1, 1) := by decide +kernel
theorem d_La_law_460 : decode code 460 = .ok (.iadd, 1) := by decide +kernel
theorem d_La_law_461 : decode code 461 = .ok (.iaload, 1) := by decide +kernel
theorem d_La_law_462 : decode code 462 = .ok (.aload_n 0, 1) := by decide +kernel
theorem d_La_law_463 : decode code 463 = .ok (.iload 4, 2) := by decide +kernel
theorem d_La_law_465 : decode code 465 = .ok (.iconst 2, 1) := by decide +kernel
theorem d_La_law_466 : decode code 466 = .ok (.iadd, 1) := by decide +kernel
theorem d_La_law_467 : decode code 467 = .ok (.iaload, 1) := by decide +kernel
theorem d_La_law_468 : decode code 468 = .ok (.invokevirtual 72, 3) := by decide +kernel
theorem d_La_law_471 : decode code 471 = .ok (.istore 6, 2) := by decide +kernel
theorem d_La_law_473 : decode code 473 = .ok (.aload_n 2, 1) := by decide +kernel
theorem d_La_law_474 : decode code 474 = .ok (.invokevirtual 52, 3) := by decide +kernel
theorem d_La_law_477 : decode code 477 = .ok (.iload 5, 2) := by decide +kernel
theorem d_La_law_479 : decode code 479 = .ok (.if_icmp .eq 5, 3) := by decide +kernel
theorem d_La_law_482 : decode code 482 = .ok (.iconst 0, 1) := by decide +kernel
theorem d_La_law_483 : decode code 483 = .ok (.ireturn, 1) := by decide +kernel
theorem d_La_law_484 : decode code 484 = .ok (.iload 5, 2) := by decide +kernel
theorem d_La_law_486 : decode code 486 = .ok (.ifCond .ne 15, 3) := by decide +kernel
theorem d_La_law_489 : decode code 489 = .ok (.aload_n 3, 1) := by decide +kernel
theorem d_La_law_490 : decode code 490 = .ok (.iconst 0, 1) := by decide +kernel
theorem d_La_law_491 : decode code 491 = .ok (.laload, 1) := by decide +kernel
theorem d_La_law_492 : decode code 492 = .ok (.iload 6, 2) := by decide +kernel
theorem d_La_law_494 : decode code 494 = .ok (.i2l, 1) := by decide +kernel
theorem d_La_law_495 : decode code 495 = .ok (.lcmp, 1) := by decide +kernel
theorem d_La_law_496 : decode code 496 = .ok (.ifCond .eq 5, 3) := by decide +kernel
theorem d_La_law_499 : decode code 499 = .ok (.iconst 0, 1) := by decide +kernel
theorem d_La_law_500 : decode code 500 = .ok (.ireturn, 1) := by decide +kernel
theorem d_La_law_501 : decode code 501 = .ok (.goto 164, 3) := by decide +kernel
theorem d_La_law_504 : decode code 504 = .ok (.aload_n 1, 1) := by decide +kernel
theorem d_La_law_505 : decode code 505 = .ok (.aload_n 0, 1) := by decide +kernel
theorem d_La_law_506 : decode code 506 = .ok (.iload 4, 2) := by decide +kernel
theorem d_La_law_508 : decode code 508 = .ok (.iconst 1, 1) := by decide +kernel
theorem d_La_law_509 : decode code 509 = .ok (.iadd, 1) := by decide +kernel
theorem d_La_law_510 : decode code 510 = .ok (.iaload, 1) := by decide +kernel
theorem d_La_law_511 : decode code 511 = .ok (.aload_n 0, 1) := by decide +kernel
theorem d_La_law_512 : decode code 512 = .ok (.iload 4, 2) := by decide +kernel
theorem d_La_law_514 : decode code 514 = .ok (.iconst 2, 1) := by decide +kernel
theorem d_La_law_515 : decode code 515 = .ok (.iadd, 1) := by decide +kernel
theorem d_La_law_516 : decode code 516 = .ok (.iaload, 1) := by decide +kernel
theorem d_La_law_517 : decode code 517 = .ok (.aload_n 3, 1) := by decide +kernel
theorem d_La_law_518 : decode code 518 = .ok (.invokestatic 73, 3) := by decide +kernel
theorem d_La_law_521 : decode code 521 = .ok (.istore 5, 2) := by decide +kernel
theorem d_La_law_523 : decode code 523 = .ok (.aload_n 2, 1) := by decide +kernel
theorem d_La_law_524 : decode code 524 = .ok (.aload_n 0, 1) := by decide +kernel
theorem d_La_law_525 : decode code 525 = .ok (.iload 4, 2) := by decide +kernel
theorem d_La_law_527 : decode code 527 = .ok (.iconst 1, 1) := by decide +kernel
theorem d_La_law_528 : decode code 528 = .ok (.iadd, 1) := by decide +kernel
theorem d_La_law_529 : decode code 529 = .ok (.iaload, 1) := by decide +kernel
theorem d_La_law_530 : decode code 530 = .ok (.aload_n 0, 1) := by decide +kernel
theorem d_La_law_531 : decode code 531 = .ok (.iload 4, 2) := by decide +kernel
theorem d_La_law_533 : decode code 533 = .ok (.iconst 2, 1) := by decide +kernel
theorem d_La_law_534 : decode code 534 = .ok (.iadd, 1) := by decide +kernel
theorem d_La_law_535 : decode code 535 = .ok (.iaload, 1) := by decide +kernel
theorem d_La_law_536 : decode code 536 = .ok (.invokevirtual 75, 3) := by decide +kernel
theorem d_La_law_539 : decode code 539 = .ok (.istore 6, 2) := by decide +kernel
theorem d_La_law_541 : decode code 541 = .ok (.aload_n 2, 1) := by decide +kernel
theorem d_La_law_542 : decode code 542 = .ok (.invokevirtual 52, 3) := by decide +kernel
theorem d_La_law_545 : decode code 545 = .ok (.iload 5, 2) := by decide +kernel
theorem d_La_law_547 : decode code 547 = .ok (.if_icmp .eq 5, 3) := by decide +kernel
theorem d_La_law_550 : decode code 550 = .ok (.iconst 0, 1) := by decide +kernel
theorem d_La_law_551 : decode code 551 = .ok (.ireturn, 1) := by decide +kernel
theorem d_La_law_552 : decode code 552 = .ok (.iload 5, 2) := by decide +kernel
theorem d_La_law_554 : decode code 554 = .ok (.ifCond .ne 15, 3) := by decide +kernel
theorem d_La_law_557 : decode code 557 = .ok (.aload_n 3, 1) := by decide +kernel
theorem d_La_law_558 : decode code 558 = .ok (.iconst 0, 1) := by decide +kernel
theorem d_La_law_559 : decode code 559 = .ok (.laload, 1) := by decide +kernel
theorem d_La_law_560 : decode code 560 = .ok (.iload 6, 2) := by decide +kernel
theorem d_La_law_562 : decode code 562 = .ok (.i2l, 1) := by decide +kernel
theorem d_La_law_563 : decode code 563 = .ok (.lcmp, 1) := by decide +kernel
theorem d_La_law_564 : decode code 564 = .ok (.ifCond .eq 5, 3) := by decide +kernel
theorem d_La_law_567 : decode code 567 = .ok (.iconst 0, 1) := by decide +kernel
theorem d_La_law_568 : decode code 568 = .ok (.ireturn, 1) := by decide +kernel
theorem d_La_law_569 : decode code 569 = .ok (.goto 96, 3) := by decide +kernel
theorem d_La_law_572 : decode code 572 = .ok (.aload_n 1, 1) := by decide +kernel
theorem d_La_law_573 : decode code 573 = .ok (.aload_n 0, 1) := by decide +kernel
theorem d_La_law_574 : decode code 574 = .ok (.iload 4, 2) := by decide +kernel
theorem d_La_law_576 : decode code 576 = .ok (.iconst 1, 1) := by decide +kernel
theorem d_La_law_577 : decode code 577 = .ok (.iadd, 1) := by decide +kernel
theorem d_La_law_578 : decode code 578 = .ok (.iaload, 1) := by decide +kernel
theorem d_La_law_579 : decode code 579 = .ok (.aload_n 0, 1) := by decide +kernel
theorem d_La_law_580 : decode code 580 = .ok (.iload 4, 2) := by decide +kernel
theorem d_La_law_582 : decode code 582 = .ok (.iconst 2, 1) := by decide +kernel
theorem d_La_law_583 : decode code 583 = .ok (.iadd, 1) := by decide +kernel
theorem d_La_law_584 : decode code 584 = .ok (.iaload, 1) := by decide +kernel
theorem d_La_law_585 : decode code 585 = .ok (.aload_n 3, 1) := by decide +kernel
theorem d_La_law_586 : decode code 586 = .ok (.invokestatic 76, 3) := by decide +kernel
theorem d_La_law_589 : decode code 589 = .ok (.istore 5, 2) := by decide +kernel
theorem d_La_law_591 : decode code 591 = .ok (.aload_n 2, 1) := by decide +kernel
theorem d_La_law_592 : decode code 592 = .ok (.aload_n 0, 1) := by decide +kernel
theorem d_La_law_593 : decode code 593 = .ok (.iload 4, 2) := by decide +kernel
theorem d_La_law_595 : decode code 595 = .ok (.iconst 1, 1) := by decide +kernel
theorem d_La_law_596 : decode code 596 = .ok (.iadd, 1) := by decide +kernel
theorem d_La_law_597 : decode code 597 = .ok (.iaload, 1) := by decide +kernel
theorem d_La_law_598 : decode code 598 = .ok (.aload_n 0, 1) := by decide +kernel
theorem d_La_law_599 : decode code 599 = .ok (.iload 4, 2) := by decide +kernel
theorem d_La_law_601 : decode code 601 = .ok (.iconst 2, 1) := by decide +kernel
theorem d_La_law_602 : decode code 602 = .ok (.iadd, 1) := by decide +kernel
theorem d_La_law_603 : decode code 603 = .ok (.iaload, 1) := by decide +kernel
theorem d_La_law_604 : decode code 604 = .ok (.invokevirtual 78, 3) := by decide +kernel
theorem d_La_law_607 : decode code 607 = .ok (.istore 6, 2) := by decide +kernel
theorem d_La_law_609 : decode code 609 = .ok (.aload_n 2, 1) := by decide +kernel
theorem d_La_law_610 : decode code 610 = .ok (.invokevirtual 52, 3) := by decide +kernel
theorem d_La_law_613 : decode code 613 = .ok (.iload 5, 2) := by decide +kernel
theorem d_La_law_615 : decode code 615 = .ok (.if_icmp .eq 5, 3) := by decide +kernel
theorem d_La_law_618 : decode code 618 = .ok (.iconst 0, 1) := by decide +kernel
theorem d_La_law_619 : decode code 619 = .ok (.ireturn, 1) := by decide +kernel
theorem d_La_law_620 : decode code 620 = .ok (.iload 5, 2) := by decide +kernel
theorem d_La_law_622 : decode code 622 = .ok (.ifCond .ne 15, 3) := by decide +kernel
theorem d_La_law_625 : decode code 625 = .ok (.aload_n 3, 1) := by decide +kernel
theorem d_La_law_626 : decode code 626 = .ok (.iconst 0, 1) := by decide +kernel
theorem d_La_law_627 : decode code 627 = .ok (.laload, 1) := by decide +kernel
theorem d_La_law_628 : decode code 628 = .ok (.iload 6, 2) := by decide +kernel
theorem d_La_law_630 : decode code 630 = .ok (.i2l, 1) := by decide +kernel
theorem d_La_law_631 : decode code 631 = .ok (.lcmp, 1) := by decide +kernel
theorem d_La_law_632 : decode code 632 = .ok (.ifCond .eq 5, 3) := by decide +kernel
theorem d_La_law_635 : decode code 635 = .ok (.iconst 0, 1) := by decide +kernel
theorem d_La_law_636 : decode code 636 = .ok (.ireturn, 1) := by decide +kernel
theorem d_La_law_637 : decode code 637 = .ok (.goto 28, 3) := by decide +kernel
theorem d_La_law_640 : decode code 640 = .ok (.aload_n 1, 1) := by decide +kernel
theorem d_La_law_641 : decode code 641 = .ok (.aload_n 0, 1) := by decide +kernel
theorem d_La_law_642 : decode code 642 = .ok (.iload 4, 2) := by decide +kernel
theorem d_La_law_644 : decode code 644 = .ok (.iconst 1, 1) := by decide +kernel
theorem d_La_law_645 : decode code 645 = .ok (.iadd, 1) := by decide +kernel
theorem d_La_law_646 : decode code 646 = .ok (.iaload, 1) := by decide +kernel
theorem d_La_law_647 : decode code 647 = .ok (.invokevirtual 79, 3) := by decide +kernel
theorem d_La_law_650 : decode code 650 = .ok (.aload_n 2, 1) := by decide +kernel
theorem d_La_law_651 : decode code 651 = .ok (.aload_n 0, 1) := by decide +kernel
theorem d_La_law_652 : decode code 652 = .ok (.iload 4, 2) := by decide +kernel
theorem d_La_law_654 : decode code 654 = .ok (.iconst 1, 1) := by decide +kernel
theorem d_La_law_655 : decode code 655 = .ok (.iadd, 1) := by decide +kernel
theorem d_La_law_656 : decode code 656 = .ok (.iaload, 1) := by decide +kernel
theorem d_La_law_657 : decode code 657 = .ok (.invokevirtual 82, 3) := by decide +kernel
theorem d_La_law_660 : decode code 660 = .ok (.if_icmp .eq 5, 3) := by decide +kernel
theorem d_La_law_663 : decode code 663 = .ok (.iconst 0, 1) := by decide +kernel
theorem d_La_law_664 : decode code 664 = .ok (.ireturn, 1) := by decide +kernel
theorem d_La_law_665 : decode code 665 = .ok (.iinc 4 6, 3) := by decide +kernel
theorem d_La_law_668 : decode code 668 = .ok (.goto (-645), 3) := by decide +kernel
theorem d_La_law_671 : decode code 671 = .ok (.iconst 1, 1) := by decide +kernel
theorem d_La_law_672 : decode code 672 = .ok (.ireturn, 1) := by decide +kernel
