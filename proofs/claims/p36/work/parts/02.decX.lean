theorem dX0_init_0 : decode cX0_init 0 = .ok (.aload_n 0, 1) := by decide +kernel
theorem dX0_init_1 : decode cX0_init 1 = .ok (.invokespecial 3, 3) := by decide +kernel
theorem dX0_init_4 : decode cX0_init 4 = .ok (.aload_n 0, 1) := by decide +kernel
theorem dX0_init_5 : decode cX0_init 5 = .ok (.bipush 20, 2) := by decide +kernel
theorem dX0_init_7 : decode cX0_init 7 = .ok (.newarray .int, 2) := by decide +kernel
theorem dX0_init_9 : decode cX0_init 9 = .ok (.putfield 11, 3) := by decide +kernel
theorem dX0_init_12 : decode cX0_init 12 = .ok (.return_, 1) := by decide +kernel
theorem dX0_forget_0 : decode cX0_forget 0 = .ok (.aload_n 0, 1) := by decide +kernel
theorem dX0_forget_1 : decode cX0_forget 1 = .ok (.iconst 0, 1) := by decide +kernel
theorem dX0_forget_2 : decode cX0_forget 2 = .ok (.putfield 15, 3) := by decide +kernel
theorem dX0_forget_5 : decode cX0_forget 5 = .ok (.return_, 1) := by decide +kernel
theorem dX0_begun_0 : decode cX0_begun 0 = .ok (.iload_n 1, 1) := by decide +kernel
theorem dX0_begun_1 : decode cX0_begun 1 = .ok (.aload_n 0, 1) := by decide +kernel
theorem dX0_begun_2 : decode cX0_begun 2 = .ok (.getfield 15, 3) := by decide +kernel
theorem dX0_begun_5 : decode cX0_begun 5 = .ok (.bipush 20, 2) := by decide +kernel
theorem dX0_begun_7 : decode cX0_begun 7 = .ok (.invokestatic 19, 3) := by decide +kernel
theorem dX0_begun_10 : decode cX0_begun 10 = .ok (.iconst 1, 1) := by decide +kernel
theorem dX0_begun_11 : decode cX0_begun 11 = .ok (.isub, 1) := by decide +kernel
theorem dX0_begun_12 : decode cX0_begun 12 = .ok (.invokestatic 25, 3) := by decide +kernel
theorem dX0_begun_15 : decode cX0_begun 15 = .ok (.ifCond .eq 12, 3) := by decide +kernel
theorem dX0_begun_18 : decode cX0_begun 18 = .ok (.aload_n 0, 1) := by decide +kernel
theorem dX0_begun_19 : decode cX0_begun 19 = .ok (.getfield 11, 3) := by decide +kernel
theorem dX0_begun_22 : decode cX0_begun 22 = .ok (.iload_n 1, 1) := by decide +kernel
theorem dX0_begun_23 : decode cX0_begun 23 = .ok (.iaload, 1) := by decide +kernel
theorem dX0_begun_24 : decode cX0_begun 24 = .ok (.goto 4, 3) := by decide +kernel
theorem dX0_begun_27 : decode cX0_begun 27 = .ok (.iconst (-1), 1) := by decide +kernel
theorem dX0_begun_28 : decode cX0_begun 28 = .ok (.ireturn, 1) := by decide +kernel
theorem dX0_start_0 : decode cX0_start 0 = .ok (.aload_n 0, 1) := by decide +kernel
theorem dX0_start_1 : decode cX0_start 1 = .ok (.iload_n 2, 1) := by decide +kernel
theorem dX0_start_2 : decode cX0_start 2 = .ok (.putfield 29, 3) := by decide +kernel
theorem dX0_start_5 : decode cX0_start 5 = .ok (.aload_n 0, 1) := by decide +kernel
theorem dX0_start_6 : decode cX0_start 6 = .ok (.aload_n 1, 1) := by decide +kernel
theorem dX0_start_7 : decode cX0_start 7 = .ok (.getfield 32, 3) := by decide +kernel
theorem dX0_start_10 : decode cX0_start 10 = .ok (.iload_n 2, 1) := by decide +kernel
theorem dX0_start_11 : decode cX0_start 11 = .ok (.iaload, 1) := by decide +kernel
theorem dX0_start_12 : decode cX0_start 12 = .ok (.putfield 37, 3) := by decide +kernel
theorem dX0_start_15 : decode cX0_start 15 = .ok (.aload_n 0, 1) := by decide +kernel
theorem dX0_start_16 : decode cX0_start 16 = .ok (.aload_n 1, 1) := by decide +kernel
theorem dX0_start_17 : decode cX0_start 17 = .ok (.getfield 40, 3) := by decide +kernel
theorem dX0_start_20 : decode cX0_start 20 = .ok (.iload_n 2, 1) := by decide +kernel
theorem dX0_start_21 : decode cX0_start 21 = .ok (.iaload, 1) := by decide +kernel
theorem dX0_start_22 : decode cX0_start 22 = .ok (.putfield 43, 3) := by decide +kernel
theorem dX0_start_25 : decode cX0_start 25 = .ok (.aload_n 0, 1) := by decide +kernel
theorem dX0_start_26 : decode cX0_start 26 = .ok (.iload_n 3, 1) := by decide +kernel
theorem dX0_start_27 : decode cX0_start 27 = .ok (.aload_n 0, 1) := by decide +kernel
theorem dX0_start_28 : decode cX0_start 28 = .ok (.getfield 37, 3) := by decide +kernel
theorem dX0_start_31 : decode cX0_start 31 = .ok (.iload 4, 2) := by decide +kernel
theorem dX0_start_33 : decode cX0_start 33 = .ok (.iconst 0, 1) := by decide +kernel
theorem dX0_start_34 : decode cX0_start 34 = .ok (.invokevirtual 46, 3) := by decide +kernel
theorem dX0_start_37 : decode cX0_start 37 = .ok (.ireturn, 1) := by decide +kernel
theorem dX0_call_0 : decode cX0_call 0 = .ok (.iload_n 2, 1) := by decide +kernel
theorem dX0_call_1 : decode cX0_call 1 = .ok (.istore 5, 2) := by decide +kernel
theorem dX0_call_3 : decode cX0_call 3 = .ok (.iconst 0, 1) := by decide +kernel
theorem dX0_call_4 : decode cX0_call 4 = .ok (.istore 6, 2) := by decide +kernel
theorem dX0_call_6 : decode cX0_call 6 = .ok (.iload 6, 2) := by decide +kernel
theorem dX0_call_8 : decode cX0_call 8 = .ok (.bipush 6, 2) := by decide +kernel
theorem dX0_call_10 : decode cX0_call 10 = .ok (.if_icmp .gt 73, 3) := by decide +kernel
theorem dX0_call_13 : decode cX0_call 13 = .ok (.iload 5, 2) := by decide +kernel
theorem dX0_call_15 : decode cX0_call 15 = .ok (.bipush 6, 2) := by decide +kernel
theorem dX0_call_17 : decode cX0_call 17 = .ok (.invokestatic 25, 3) := by decide +kernel
theorem dX0_call_20 : decode cX0_call 20 = .ok (.ifCond .eq 63, 3) := by decide +kernel
theorem dX0_call_23 : decode cX0_call 23 = .ok (.getstatic 50, 3) := by decide +kernel
theorem dX0_call_26 : decode cX0_call 26 = .ok (.iload 5, 2) := by decide +kernel
theorem dX0_call_28 : decode cX0_call 28 = .ok (.iconst 3, 1) := by decide +kernel
theorem dX0_call_29 : decode cX0_call 29 = .ok (.imul, 1) := by decide +kernel
theorem dX0_call_30 : decode cX0_call 30 = .ok (.iload_n 1, 1) := by decide +kernel
theorem dX0_call_31 : decode cX0_call 31 = .ok (.iadd, 1) := by decide +kernel
theorem dX0_call_32 : decode cX0_call 32 = .ok (.iaload, 1) := by decide +kernel
theorem dX0_call_33 : decode cX0_call 33 = .ok (.istore 7, 2) := by decide +kernel
theorem dX0_call_35 : decode cX0_call 35 = .ok (.iload 7, 2) := by decide +kernel
theorem dX0_call_37 : decode cX0_call 37 = .ok (.ifCond .eq 32, 3) := by decide +kernel
theorem dX0_call_40 : decode cX0_call 40 = .ok (.iload 4, 2) := by decide +kernel
theorem dX0_call_42 : decode cX0_call 42 = .ok (.bipush 20, 2) := by decide +kernel
theorem dX0_call_44 : decode cX0_call 44 = .ok (.if_icmp .ge 23, 3) := by decide +kernel
theorem dX0_call_47 : decode cX0_call 47 = .ok (.aload_n 0, 1) := by decide +kernel
theorem dX0_call_48 : decode cX0_call 48 = .ok (.iload 7, 2) := by decide +kernel
theorem dX0_call_50 : decode cX0_call 50 = .ok (.getstatic 53, 3) := by decide +kernel
theorem dX0_call_53 : decode cX0_call 53 = .ok (.iload 5, 2) := by decide +kernel
theorem dX0_call_55 : decode cX0_call 55 = .ok (.iaload, 1) := by decide +kernel
theorem dX0_call_56 : decode cX0_call 56 = .ok (.iload_n 3, 1) := by decide +kernel
theorem dX0_call_57 : decode cX0_call 57 = .ok (.iload 4, 2) := by decide +kernel
theorem dX0_call_59 : decode cX0_call 59 = .ok (.iconst 1, 1) := by decide +kernel
theorem dX0_call_60 : decode cX0_call 60 = .ok (.iadd, 1) := by decide +kernel
theorem dX0_call_61 : decode cX0_call 61 = .ok (.invokevirtual 56, 3) := by decide +kernel
theorem dX0_call_64 : decode cX0_call 64 = .ok (.goto 4, 3) := by decide +kernel
theorem dX0_call_67 : decode cX0_call 67 = .ok (.iconst 0, 1) := by decide +kernel
theorem dX0_call_68 : decode cX0_call 68 = .ok (.ireturn, 1) := by decide +kernel
theorem dX0_call_69 : decode cX0_call 69 = .ok (.getstatic 53, 3) := by decide +kernel
theorem dX0_call_72 : decode cX0_call 72 = .ok (.iload 5, 2) := by decide +kernel
theorem dX0_call_74 : decode cX0_call 74 = .ok (.iaload, 1) := by decide +kernel
theorem dX0_call_75 : decode cX0_call 75 = .ok (.istore 5, 2) := by decide +kernel
theorem dX0_call_77 : decode cX0_call 77 = .ok (.iinc 6 1, 3) := by decide +kernel
theorem dX0_call_80 : decode cX0_call 80 = .ok (.goto (-74), 3) := by decide +kernel
theorem dX0_call_83 : decode cX0_call 83 = .ok (.iconst 0, 1) := by decide +kernel
theorem dX0_call_84 : decode cX0_call 84 = .ok (.ireturn, 1) := by decide +kernel
theorem dX0_run_0 : decode cX0_run 0 = .ok (.aload_n 0, 1) := by decide +kernel
theorem dX0_run_1 : decode cX0_run 1 = .ok (.iload_n 1, 1) := by decide +kernel
theorem dX0_run_2 : decode cX0_run 2 = .ok (.invokevirtual 59, 3) := by decide +kernel
theorem dX0_run_5 : decode cX0_run 5 = .ok (.iload_n 1, 1) := by decide +kernel
theorem dX0_run_6 : decode cX0_run 6 = .ok (.lookupswitch 259 #[(10, 98), (11, 105), (12, 123), (20, 138), (30, 151), (40, 163), (50, 186), (51, 197), (60, 209), (70, 224), (71, 244)], 98) := by decide +kernel
theorem dX0_run_104 : decode cX0_run 104 = .ok (.iload_n 3, 1) := by decide +kernel
theorem dX0_run_105 : decode cX0_run 105 = .ok (.aload_n 0, 1) := by decide +kernel
theorem dX0_run_106 : decode cX0_run 106 = .ok (.getfield 29, 3) := by decide +kernel
theorem dX0_run_109 : decode cX0_run 109 = .ok (.iadd, 1) := by decide +kernel
theorem dX0_run_110 : decode cX0_run 110 = .ok (.ireturn, 1) := by decide +kernel
theorem dX0_run_111 : decode cX0_run 111 = .ok (.aload_n 0, 1) := by decide +kernel
theorem dX0_run_112 : decode cX0_run 112 = .ok (.iconst 0, 1) := by decide +kernel
theorem dX0_run_113 : decode cX0_run 113 = .ok (.aload_n 0, 1) := by decide +kernel
theorem dX0_run_114 : decode cX0_run 114 = .ok (.getfield 37, 3) := by decide +kernel
theorem dX0_run_117 : decode cX0_run 117 = .ok (.iload_n 3, 1) := by decide +kernel
theorem dX0_run_118 : decode cX0_run 118 = .ok (.iload 4, 2) := by decide +kernel
theorem dX0_run_120 : decode cX0_run 120 = .ok (.invokevirtual 46, 3) := by decide +kernel
theorem dX0_run_123 : decode cX0_run 123 = .ok (.aload_n 0, 1) := by decide +kernel
theorem dX0_run_124 : decode cX0_run 124 = .ok (.getfield 43, 3) := by decide +kernel
theorem dX0_run_127 : decode cX0_run 127 = .ok (.isub, 1) := by decide +kernel
theorem dX0_run_128 : decode cX0_run 128 = .ok (.ireturn, 1) := by decide +kernel
theorem dX0_run_129 : decode cX0_run 129 = .ok (.aload_n 0, 1) := by decide +kernel
theorem dX0_run_130 : decode cX0_run 130 = .ok (.iconst 1, 1) := by decide +kernel
theorem dX0_run_131 : decode cX0_run 131 = .ok (.aload_n 0, 1) := by decide +kernel
theorem dX0_run_132 : decode cX0_run 132 = .ok (.getfield 37, 3) := by decide +kernel
theorem dX0_run_135 : decode cX0_run 135 = .ok (.iload_n 3, 1) := by decide +kernel
theorem dX0_run_136 : decode cX0_run 136 = .ok (.iload 4, 2) := by decide +kernel
theorem dX0_run_138 : decode cX0_run 138 = .ok (.invokevirtual 46, 3) := by decide +kernel
theorem dX0_run_141 : decode cX0_run 141 = .ok (.iconst 2, 1) := by decide +kernel
theorem dX0_run_142 : decode cX0_run 142 = .ok (.imul, 1) := by decide +kernel
theorem dX0_run_143 : decode cX0_run 143 = .ok (.ireturn, 1) := by decide +kernel
theorem dX0_run_144 : decode cX0_run 144 = .ok (.aload_n 0, 1) := by decide +kernel
theorem dX0_run_145 : decode cX0_run 145 = .ok (.iconst 1, 1) := by decide +kernel
theorem dX0_run_146 : decode cX0_run 146 = .ok (.iload_n 2, 1) := by decide +kernel
theorem dX0_run_147 : decode cX0_run 147 = .ok (.iload_n 3, 1) := by decide +kernel
theorem dX0_run_148 : decode cX0_run 148 = .ok (.iload 4, 2) := by decide +kernel
theorem dX0_run_150 : decode cX0_run 150 = .ok (.invokevirtual 46, 3) := by decide +kernel
theorem dX0_run_153 : decode cX0_run 153 = .ok (.bipush 6, 2) := by decide +kernel
theorem dX0_run_155 : decode cX0_run 155 = .ok (.ixor, 1) := by decide +kernel
theorem dX0_run_156 : decode cX0_run 156 = .ok (.ireturn, 1) := by decide +kernel
theorem dX0_run_157 : decode cX0_run 157 = .ok (.aload_n 0, 1) := by decide +kernel
theorem dX0_run_158 : decode cX0_run 158 = .ok (.iconst 0, 1) := by decide +kernel
theorem dX0_run_159 : decode cX0_run 159 = .ok (.iload_n 2, 1) := by decide +kernel
theorem dX0_run_160 : decode cX0_run 160 = .ok (.iload_n 3, 1) := by decide +kernel
theorem dX0_run_161 : decode cX0_run 161 = .ok (.iconst 3, 1) := by decide +kernel
theorem dX0_run_162 : decode cX0_run 162 = .ok (.imul, 1) := by decide +kernel
theorem dX0_run_163 : decode cX0_run 163 = .ok (.iload 4, 2) := by decide +kernel
theorem dX0_run_165 : decode cX0_run 165 = .ok (.invokevirtual 46, 3) := by decide +kernel
theorem dX0_run_168 : decode cX0_run 168 = .ok (.ireturn, 1) := by decide +kernel
theorem dX0_run_169 : decode cX0_run 169 = .ok (.aload_n 0, 1) := by decide +kernel
theorem dX0_run_170 : decode cX0_run 170 = .ok (.iconst 2, 1) := by decide +kernel
theorem dX0_run_171 : decode cX0_run 171 = .ok (.iload_n 2, 1) := by decide +kernel
theorem dX0_run_172 : decode cX0_run 172 = .ok (.iload_n 3, 1) := by decide +kernel
theorem dX0_run_173 : decode cX0_run 173 = .ok (.iload 4, 2) := by decide +kernel
theorem dX0_run_175 : decode cX0_run 175 = .ok (.invokevirtual 46, 3) := by decide +kernel
theorem dX0_run_178 : decode cX0_run 178 = .ok (.aload_n 0, 1) := by decide +kernel
theorem dX0_run_179 : decode cX0_run 179 = .ok (.iconst 1, 1) := by decide +kernel
theorem dX0_run_180 : decode cX0_run 180 = .ok (.aload_n 0, 1) := by decide +kernel
theorem dX0_run_181 : decode cX0_run 181 = .ok (.getfield 37, 3) := by decide +kernel
theorem dX0_run_184 : decode cX0_run 184 = .ok (.iconst 1, 1) := by decide +kernel
theorem dX0_run_185 : decode cX0_run 185 = .ok (.iload 4, 2) := by decide +kernel
theorem dX0_run_187 : decode cX0_run 187 = .ok (.invokevirtual 46, 3) := by decide +kernel
theorem dX0_run_190 : decode cX0_run 190 = .ok (.iadd, 1) := by decide +kernel
theorem dX0_run_191 : decode cX0_run 191 = .ok (.ireturn, 1) := by decide +kernel
theorem dX0_run_192 : decode cX0_run 192 = .ok (.aload_n 0, 1) := by decide +kernel
theorem dX0_run_193 : decode cX0_run 193 = .ok (.iconst 0, 1) := by decide +kernel
theorem dX0_run_194 : decode cX0_run 194 = .ok (.iload_n 2, 1) := by decide +kernel
theorem dX0_run_195 : decode cX0_run 195 = .ok (.iload_n 3, 1) := by decide +kernel
theorem dX0_run_196 : decode cX0_run 196 = .ok (.iload 4, 2) := by decide +kernel
theorem dX0_run_198 : decode cX0_run 198 = .ok (.invokevirtual 46, 3) := by decide +kernel
theorem dX0_run_201 : decode cX0_run 201 = .ok (.ineg, 1) := by decide +kernel
theorem dX0_run_202 : decode cX0_run 202 = .ok (.ireturn, 1) := by decide +kernel
theorem dX0_run_203 : decode cX0_run 203 = .ok (.aload_n 0, 1) := by decide +kernel
theorem dX0_run_204 : decode cX0_run 204 = .ok (.iconst 1, 1) := by decide +kernel
theorem dX0_run_205 : decode cX0_run 205 = .ok (.iload_n 2, 1) := by decide +kernel
theorem dX0_run_206 : decode cX0_run 206 = .ok (.iload_n 3, 1) := by decide +kernel
theorem dX0_run_207 : decode cX0_run 207 = .ok (.iconst 1, 1) := by decide +kernel
theorem dX0_run_208 : decode cX0_run 208 = .ok (.iadd, 1) := by decide +kernel
theorem dX0_run_209 : decode cX0_run 209 = .ok (.iload 4, 2) := by decide +kernel
theorem dX0_run_211 : decode cX0_run 211 = .ok (.invokevirtual 46, 3) := by decide +kernel
theorem dX0_run_214 : decode cX0_run 214 = .ok (.ireturn, 1) := by decide +kernel
theorem dX0_run_215 : decode cX0_run 215 = .ok (.aload_n 0, 1) := by decide +kernel
theorem dX0_run_216 : decode cX0_run 216 = .ok (.iconst 2, 1) := by decide +kernel
theorem dX0_run_217 : decode cX0_run 217 = .ok (.iload_n 2, 1) := by decide +kernel
theorem dX0_run_218 : decode cX0_run 218 = .ok (.iload_n 3, 1) := by decide +kernel
theorem dX0_run_219 : decode cX0_run 219 = .ok (.aload_n 0, 1) := by decide +kernel
theorem dX0_run_220 : decode cX0_run 220 = .ok (.getfield 29, 3) := by decide +kernel
theorem dX0_run_223 : decode cX0_run 223 = .ok (.isub, 1) := by decide +kernel
theorem dX0_run_224 : decode cX0_run 224 = .ok (.iload 4, 2) := by decide +kernel
theorem dX0_run_226 : decode cX0_run 226 = .ok (.invokevirtual 46, 3) := by decide +kernel
theorem dX0_run_229 : decode cX0_run 229 = .ok (.ireturn, 1) := by decide +kernel
theorem dX0_run_230 : decode cX0_run 230 = .ok (.aload_n 0, 1) := by decide +kernel
theorem dX0_run_231 : decode cX0_run 231 = .ok (.iconst 1, 1) := by decide +kernel
theorem dX0_run_232 : decode cX0_run 232 = .ok (.iload_n 2, 1) := by decide +kernel
theorem dX0_run_233 : decode cX0_run 233 = .ok (.iload_n 3, 1) := by decide +kernel
theorem dX0_run_234 : decode cX0_run 234 = .ok (.iload 4, 2) := by decide +kernel
theorem dX0_run_236 : decode cX0_run 236 = .ok (.invokevirtual 46, 3) := by decide +kernel
theorem dX0_run_239 : decode cX0_run 239 = .ok (.aload_n 0, 1) := by decide +kernel
theorem dX0_run_240 : decode cX0_run 240 = .ok (.iconst 0, 1) := by decide +kernel
theorem dX0_run_241 : decode cX0_run 241 = .ok (.iload_n 2, 1) := by decide +kernel
theorem dX0_run_242 : decode cX0_run 242 = .ok (.iconst 2, 1) := by decide +kernel
theorem dX0_run_243 : decode cX0_run 243 = .ok (.iload 4, 2) := by decide +kernel
theorem dX0_run_245 : decode cX0_run 245 = .ok (.invokevirtual 46, 3) := by decide +kernel
theorem dX0_run_248 : decode cX0_run 248 = .ok (.iadd, 1) := by decide +kernel
theorem dX0_run_249 : decode cX0_run 249 = .ok (.ireturn, 1) := by decide +kernel
theorem dX0_run_250 : decode cX0_run 250 = .ok (.aload_n 0, 1) := by decide +kernel
theorem dX0_run_251 : decode cX0_run 251 = .ok (.iconst 0, 1) := by decide +kernel
theorem dX0_run_252 : decode cX0_run 252 = .ok (.iload_n 2, 1) := by decide +kernel
theorem dX0_run_253 : decode cX0_run 253 = .ok (.iload_n 3, 1) := by decide +kernel
theorem dX0_run_254 : decode cX0_run 254 = .ok (.iload 4, 2) := by decide +kernel
theorem dX0_run_256 : decode cX0_run 256 = .ok (.invokevirtual 46, 3) := by decide +kernel
theorem dX0_run_259 : decode cX0_run 259 = .ok (.aload_n 0, 1) := by decide +kernel
theorem dX0_run_260 : decode cX0_run 260 = .ok (.getfield 43, 3) := by decide +kernel
theorem dX0_run_263 : decode cX0_run 263 = .ok (.ixor, 1) := by decide +kernel
theorem dX0_run_264 : decode cX0_run 264 = .ok (.ireturn, 1) := by decide +kernel
theorem dX0_run_265 : decode cX0_run 265 = .ok (.iconst 0, 1) := by decide +kernel
theorem dX0_run_266 : decode cX0_run 266 = .ok (.ireturn, 1) := by decide +kernel
theorem dX0_note_0 : decode cX0_note 0 = .ok (.aload_n 0, 1) := by decide +kernel
theorem dX0_note_1 : decode cX0_note 1 = .ok (.getfield 15, 3) := by decide +kernel
theorem dX0_note_4 : decode cX0_note 4 = .ok (.bipush 20, 2) := by decide +kernel
theorem dX0_note_6 : decode cX0_note 6 = .ok (.if_icmp .ge 13, 3) := by decide +kernel
theorem dX0_note_9 : decode cX0_note 9 = .ok (.aload_n 0, 1) := by decide +kernel
theorem dX0_note_10 : decode cX0_note 10 = .ok (.getfield 11, 3) := by decide +kernel
theorem dX0_note_13 : decode cX0_note 13 = .ok (.aload_n 0, 1) := by decide +kernel
theorem dX0_note_14 : decode cX0_note 14 = .ok (.getfield 15, 3) := by decide +kernel
theorem dX0_note_17 : decode cX0_note 17 = .ok (.iload_n 1, 1) := by decide +kernel
theorem dX0_note_18 : decode cX0_note 18 = .ok (.iastore, 1) := by decide +kernel
theorem dX0_note_19 : decode cX0_note 19 = .ok (.aload_n 0, 1) := by decide +kernel
theorem dX0_note_20 : decode cX0_note 20 = .ok (.dup, 1) := by decide +kernel
theorem dX0_note_21 : decode cX0_note 21 = .ok (.getfield 15, 3) := by decide +kernel
theorem dX0_note_24 : decode cX0_note 24 = .ok (.iconst 1, 1) := by decide +kernel
theorem dX0_note_25 : decode cX0_note 25 = .ok (.iadd, 1) := by decide +kernel
theorem dX0_note_26 : decode cX0_note 26 = .ok (.putfield 15, 3) := by decide +kernel
theorem dX0_note_29 : decode cX0_note 29 = .ok (.return_, 1) := by decide +kernel
theorem dX1_init_0 : decode cX1_init 0 = .ok (.aload_n 0, 1) := by decide +kernel
theorem dX1_init_1 : decode cX1_init 1 = .ok (.invokespecial 3, 3) := by decide +kernel
theorem dX1_init_4 : decode cX1_init 4 = .ok (.aload_n 0, 1) := by decide +kernel
theorem dX1_init_5 : decode cX1_init 5 = .ok (.bipush 6, 2) := by decide +kernel
theorem dX1_init_7 : decode cX1_init 7 = .ok (.newarray .int, 2) := by decide +kernel
theorem dX1_init_9 : decode cX1_init 9 = .ok (.putfield 9, 3) := by decide +kernel
theorem dX1_init_12 : decode cX1_init 12 = .ok (.aload_n 0, 1) := by decide +kernel
theorem dX1_init_13 : decode cX1_init 13 = .ok (.bipush 6, 2) := by decide +kernel
theorem dX1_init_15 : decode cX1_init 15 = .ok (.newarray .int, 2) := by decide +kernel
theorem dX1_init_17 : decode cX1_init 17 = .ok (.putfield 15, 3) := by decide +kernel
theorem dX1_init_20 : decode cX1_init 20 = .ok (.aload_n 0, 1) := by decide +kernel
theorem dX1_init_21 : decode cX1_init 21 = .ok (.aload_n 1, 1) := by decide +kernel
theorem dX1_init_22 : decode cX1_init 22 = .ok (.putfield 18, 3) := by decide +kernel
theorem dX1_init_25 : decode cX1_init 25 = .ok (.aload_n 0, 1) := by decide +kernel
theorem dX1_init_26 : decode cX1_init 26 = .ok (.aload_n 2, 1) := by decide +kernel
theorem dX1_init_27 : decode cX1_init 27 = .ok (.putfield 22, 3) := by decide +kernel
theorem dX1_init_30 : decode cX1_init 30 = .ok (.return_, 1) := by decide +kernel
theorem dX1_measure_0 : decode cX1_measure 0 = .ok (.aload_n 0, 1) := by decide +kernel
theorem dX1_measure_1 : decode cX1_measure 1 = .ok (.getfield 22, 3) := by decide +kernel
theorem dX1_measure_4 : decode cX1_measure 4 = .ok (.aload_n 0, 1) := by decide +kernel
theorem dX1_measure_5 : decode cX1_measure 5 = .ok (.getfield 18, 3) := by decide +kernel
theorem dX1_measure_8 : decode cX1_measure 8 = .ok (.iload_n 1, 1) := by decide +kernel
theorem dX1_measure_9 : decode cX1_measure 9 = .ok (.iload_n 2, 1) := by decide +kernel
theorem dX1_measure_10 : decode cX1_measure 10 = .ok (.iload_n 3, 1) := by decide +kernel
theorem dX1_measure_11 : decode cX1_measure 11 = .ok (.invokevirtual 26, 3) := by decide +kernel
theorem dX1_measure_14 : decode cX1_measure 14 = .ok (.aload_n 0, 1) := by decide +kernel
theorem dX1_measure_15 : decode cX1_measure 15 = .ok (.getfield 9, 3) := by decide +kernel
theorem dX1_measure_18 : decode cX1_measure 18 = .ok (.iload_n 2, 1) := by decide +kernel
theorem dX1_measure_19 : decode cX1_measure 19 = .ok (.aload_n 0, 1) := by decide +kernel
theorem dX1_measure_20 : decode cX1_measure 20 = .ok (.getfield 22, 3) := by decide +kernel
theorem dX1_measure_23 : decode cX1_measure 23 = .ok (.getfield 32, 3) := by decide +kernel
theorem dX1_measure_26 : decode cX1_measure 26 = .ok (.iastore, 1) := by decide +kernel
theorem dX1_measure_27 : decode cX1_measure 27 = .ok (.aload_n 0, 1) := by decide +kernel
theorem dX1_measure_28 : decode cX1_measure 28 = .ok (.getfield 15, 3) := by decide +kernel
theorem dX1_measure_31 : decode cX1_measure 31 = .ok (.iload_n 2, 1) := by decide +kernel
theorem dX1_measure_32 : decode cX1_measure 32 = .ok (.aload_n 0, 1) := by decide +kernel
theorem dX1_measure_33 : decode cX1_measure 33 = .ok (.getfield 22, 3) := by decide +kernel
theorem dX1_measure_36 : decode cX1_measure 36 = .ok (.getfield 36, 3) := by decide +kernel
theorem dX1_measure_39 : decode cX1_measure 39 = .ok (.iload_n 3, 1) := by decide +kernel
theorem dX1_measure_40 : decode cX1_measure 40 = .ok (.imul, 1) := by decide +kernel
theorem dX1_measure_41 : decode cX1_measure 41 = .ok (.aload_n 0, 1) := by decide +kernel
theorem dX1_measure_42 : decode cX1_measure 42 = .ok (.getfield 18, 3) := by decide +kernel
theorem dX1_measure_45 : decode cX1_measure 45 = .ok (.getfield 39, 3) := by decide +kernel
theorem dX1_measure_48 : decode cX1_measure 48 = .ok (.iload_n 1, 1) := by decide +kernel
theorem dX1_measure_49 : decode cX1_measure 49 = .ok (.iaload, 1) := by decide +kernel
theorem dX1_measure_50 : decode cX1_measure 50 = .ok (.invokestatic 44, 3) := by decide +kernel
theorem dX1_measure_53 : decode cX1_measure 53 = .ok (.iastore, 1) := by decide +kernel
theorem dX1_measure_54 : decode cX1_measure 54 = .ok (.return_, 1) := by decide +kernel
theorem dX1_begin_0 : decode cX1_begin 0 = .ok (.aload_n 0, 1) := by decide +kernel
theorem dX1_begin_1 : decode cX1_begin 1 = .ok (.iload_n 1, 1) := by decide +kernel
theorem dX1_begin_2 : decode cX1_begin 2 = .ok (.putfield 48, 3) := by decide +kernel
theorem dX1_begin_5 : decode cX1_begin 5 = .ok (.aload_n 0, 1) := by decide +kernel
theorem dX1_begin_6 : decode cX1_begin 6 = .ok (.iload_n 2, 1) := by decide +kernel
theorem dX1_begin_7 : decode cX1_begin 7 = .ok (.putfield 51, 3) := by decide +kernel
theorem dX1_begin_10 : decode cX1_begin 10 = .ok (.aload_n 0, 1) := by decide +kernel
theorem dX1_begin_11 : decode cX1_begin 11 = .ok (.aload_n 0, 1) := by decide +kernel
theorem dX1_begin_12 : decode cX1_begin 12 = .ok (.getfield 18, 3) := by decide +kernel
theorem dX1_begin_15 : decode cX1_begin 15 = .ok (.getfield 54, 3) := by decide +kernel
theorem dX1_begin_18 : decode cX1_begin 18 = .ok (.iload_n 1, 1) := by decide +kernel
theorem dX1_begin_19 : decode cX1_begin 19 = .ok (.iaload, 1) := by decide +kernel
theorem dX1_begin_20 : decode cX1_begin 20 = .ok (.putfield 57, 3) := by decide +kernel
theorem dX1_begin_23 : decode cX1_begin 23 = .ok (.aload_n 0, 1) := by decide +kernel
theorem dX1_begin_24 : decode cX1_begin 24 = .ok (.aload_n 0, 1) := by decide +kernel
theorem dX1_begin_25 : decode cX1_begin 25 = .ok (.getfield 18, 3) := by decide +kernel
theorem dX1_begin_28 : decode cX1_begin 28 = .ok (.getfield 60, 3) := by decide +kernel
theorem dX1_begin_31 : decode cX1_begin 31 = .ok (.iload_n 1, 1) := by decide +kernel
theorem dX1_begin_32 : decode cX1_begin 32 = .ok (.iaload, 1) := by decide +kernel
theorem dX1_begin_33 : decode cX1_begin 33 = .ok (.putfield 63, 3) := by decide +kernel
theorem dX1_begin_36 : decode cX1_begin 36 = .ok (.aload_n 0, 1) := by decide +kernel
theorem dX1_begin_37 : decode cX1_begin 37 = .ok (.iconst 0, 1) := by decide +kernel
theorem dX1_begin_38 : decode cX1_begin 38 = .ok (.putfield 66, 3) := by decide +kernel
theorem dX1_begin_41 : decode cX1_begin 41 = .ok (.aload_n 0, 1) := by decide +kernel
theorem dX1_begin_42 : decode cX1_begin 42 = .ok (.iconst 0, 1) := by decide +kernel
theorem dX1_begin_43 : decode cX1_begin 43 = .ok (.putfield 69, 3) := by decide +kernel
theorem dX1_begin_46 : decode cX1_begin 46 = .ok (.return_, 1) := by decide +kernel
theorem dX1_reach_0 : decode cX1_reach 0 = .ok (.aload_n 0, 1) := by decide +kernel
theorem dX1_reach_1 : decode cX1_reach 1 = .ok (.dup, 1) := by decide +kernel
theorem dX1_reach_2 : decode cX1_reach 2 = .ok (.getfield 51, 3) := by decide +kernel
theorem dX1_reach_5 : decode cX1_reach 5 = .ok (.aload_n 0, 1) := by decide +kernel
theorem dX1_reach_6 : decode cX1_reach 6 = .ok (.getfield 9, 3) := by decide +kernel
theorem dX1_reach_9 : decode cX1_reach 9 = .ok (.iload_n 1, 1) := by decide +kernel
theorem dX1_reach_10 : decode cX1_reach 10 = .ok (.iaload, 1) := by decide +kernel
theorem dX1_reach_11 : decode cX1_reach 11 = .ok (.iload_n 1, 1) := by decide +kernel
theorem dX1_reach_12 : decode cX1_reach 12 = .ok (.aload_n 0, 1) := by decide +kernel
theorem dX1_reach_13 : decode cX1_reach 13 = .ok (.getfield 57, 3) := by decide +kernel
theorem dX1_reach_16 : decode cX1_reach 16 = .ok (.isub, 1) := by decide +kernel
theorem dX1_reach_17 : decode cX1_reach 17 = .ok (.invokestatic 72, 3) := by decide +kernel
theorem dX1_reach_20 : decode cX1_reach 20 = .ok (.imul, 1) := by decide +kernel
theorem dX1_reach_21 : decode cX1_reach 21 = .ok (.iadd, 1) := by decide +kernel
theorem dX1_reach_22 : decode cX1_reach 22 = .ok (.putfield 51, 3) := by decide +kernel
theorem dX1_reach_25 : decode cX1_reach 25 = .ok (.aload_n 0, 1) := by decide +kernel
theorem dX1_reach_26 : decode cX1_reach 26 = .ok (.getfield 69, 3) := by decide +kernel
theorem dX1_reach_29 : decode cX1_reach 29 = .ok (.iload_n 1, 1) := by decide +kernel
theorem dX1_reach_30 : decode cX1_reach 30 = .ok (.invokestatic 78, 3) := by decide +kernel
theorem dX1_reach_33 : decode cX1_reach 33 = .ok (.ifCond .ne 31, 3) := by decide +kernel
theorem dX1_reach_36 : decode cX1_reach 36 = .ok (.aload_n 0, 1) := by decide +kernel
theorem dX1_reach_37 : decode cX1_reach 37 = .ok (.dup, 1) := by decide +kernel
theorem dX1_reach_38 : decode cX1_reach 38 = .ok (.getfield 51, 3) := by decide +kernel
theorem dX1_reach_41 : decode cX1_reach 41 = .ok (.aload_n 0, 1) := by decide +kernel
theorem dX1_reach_42 : decode cX1_reach 42 = .ok (.getfield 15, 3) := by decide +kernel
theorem dX1_reach_45 : decode cX1_reach 45 = .ok (.iload_n 1, 1) := by decide +kernel
theorem dX1_reach_46 : decode cX1_reach 46 = .ok (.iaload, 1) := by decide +kernel
theorem dX1_reach_47 : decode cX1_reach 47 = .ok (.iadd, 1) := by decide +kernel
theorem dX1_reach_48 : decode cX1_reach 48 = .ok (.putfield 51, 3) := by decide +kernel
theorem dX1_reach_51 : decode cX1_reach 51 = .ok (.aload_n 0, 1) := by decide +kernel
theorem dX1_reach_52 : decode cX1_reach 52 = .ok (.aload_n 0, 1) := by decide +kernel
theorem dX1_reach_53 : decode cX1_reach 53 = .ok (.getfield 69, 3) := by decide +kernel
theorem dX1_reach_56 : decode cX1_reach 56 = .ok (.iload_n 1, 1) := by decide +kernel
theorem dX1_reach_57 : decode cX1_reach 57 = .ok (.iconst 1, 1) := by decide +kernel
theorem dX1_reach_58 : decode cX1_reach 58 = .ok (.invokestatic 81, 3) := by decide +kernel
theorem dX1_reach_61 : decode cX1_reach 61 = .ok (.putfield 69, 3) := by decide +kernel
theorem dX1_reach_64 : decode cX1_reach 64 = .ok (.aload_n 0, 1) := by decide +kernel
theorem dX1_reach_65 : decode cX1_reach 65 = .ok (.iload_n 1, 1) := by decide +kernel
theorem dX1_reach_66 : decode cX1_reach 66 = .ok (.putfield 57, 3) := by decide +kernel
theorem dX1_reach_69 : decode cX1_reach 69 = .ok (.aload_n 0, 1) := by decide +kernel
theorem dX1_reach_70 : decode cX1_reach 70 = .ok (.getfield 51, 3) := by decide +kernel
theorem dX1_reach_73 : decode cX1_reach 73 = .ok (.aload_n 0, 1) := by decide +kernel
theorem dX1_reach_74 : decode cX1_reach 74 = .ok (.getfield 22, 3) := by decide +kernel
theorem dX1_reach_77 : decode cX1_reach 77 = .ok (.aload_n 0, 1) := by decide +kernel
theorem dX1_reach_78 : decode cX1_reach 78 = .ok (.getfield 18, 3) := by decide +kernel
theorem dX1_reach_81 : decode cX1_reach 81 = .ok (.getfield 85, 3) := by decide +kernel
theorem dX1_reach_84 : decode cX1_reach 84 = .ok (.invokevirtual 88, 3) := by decide +kernel
theorem dX1_reach_87 : decode cX1_reach 87 = .ok (.if_icmp .ge 15, 3) := by decide +kernel
theorem dX1_reach_90 : decode cX1_reach 90 = .ok (.aload_n 0, 1) := by decide +kernel
theorem dX1_reach_91 : decode cX1_reach 91 = .ok (.iload_n 1, 1) := by decide +kernel
theorem dX1_reach_92 : decode cX1_reach 92 = .ok (.invokevirtual 91, 3) := by decide +kernel
theorem dX1_reach_95 : decode cX1_reach 95 = .ok (.ifCond .eq 7, 3) := by decide +kernel
theorem dX1_reach_98 : decode cX1_reach 98 = .ok (.iconst 1, 1) := by decide +kernel
theorem dX1_reach_99 : decode cX1_reach 99 = .ok (.goto 4, 3) := by decide +kernel
theorem dX1_reach_102 : decode cX1_reach 102 = .ok (.iconst 0, 1) := by decide +kernel
theorem dX1_reach_103 : decode cX1_reach 103 = .ok (.istore_n 2, 1) := by decide +kernel
theorem dX1_reach_104 : decode cX1_reach 104 = .ok (.iload_n 2, 1) := by decide +kernel
theorem dX1_reach_105 : decode cX1_reach 105 = .ok (.ifCond .eq 16, 3) := by decide +kernel
theorem dX1_reach_108 : decode cX1_reach 108 = .ok (.aload_n 0, 1) := by decide +kernel
theorem dX1_reach_109 : decode cX1_reach 109 = .ok (.aload_n 0, 1) := by decide +kernel
theorem dX1_reach_110 : decode cX1_reach 110 = .ok (.getfield 66, 3) := by decide +kernel
theorem dX1_reach_113 : decode cX1_reach 113 = .ok (.iload_n 1, 1) := by decide +kernel
theorem dX1_reach_114 : decode cX1_reach 114 = .ok (.iconst 1, 1) := by decide +kernel
theorem dX1_reach_115 : decode cX1_reach 115 = .ok (.invokestatic 81, 3) := by decide +kernel
theorem dX1_reach_118 : decode cX1_reach 118 = .ok (.putfield 66, 3) := by decide +kernel
theorem dX1_reach_121 : decode cX1_reach 121 = .ok (.iload_n 2, 1) := by decide +kernel
theorem dX1_reach_122 : decode cX1_reach 122 = .ok (.ireturn, 1) := by decide +kernel
theorem dX1_isLetIn_0 : decode cX1_isLetIn 0 = .ok (.aload_n 0, 1) := by decide +kernel
theorem dX1_isLetIn_1 : decode cX1_isLetIn 1 = .ok (.iload_n 1, 1) := by decide +kernel
theorem dX1_isLetIn_2 : decode cX1_isLetIn 2 = .ok (.iload_n 3, 1) := by decide +kernel
theorem dX1_isLetIn_3 : decode cX1_isLetIn 3 = .ok (.invokevirtual 95, 3) := by decide +kernel
theorem dX1_isLetIn_6 : decode cX1_isLetIn 6 = .ok (.aload_n 0, 1) := by decide +kernel
theorem dX1_isLetIn_7 : decode cX1_isLetIn 7 = .ok (.getfield 51, 3) := by decide +kernel
theorem dX1_isLetIn_10 : decode cX1_isLetIn 10 = .ok (.aload_n 0, 1) := by decide +kernel
theorem dX1_isLetIn_11 : decode cX1_isLetIn 11 = .ok (.getfield 22, 3) := by decide +kernel
theorem dX1_isLetIn_14 : decode cX1_isLetIn 14 = .ok (.aload_n 0, 1) := by decide +kernel
theorem dX1_isLetIn_15 : decode cX1_isLetIn 15 = .ok (.getfield 18, 3) := by decide +kernel
theorem dX1_isLetIn_18 : decode cX1_isLetIn 18 = .ok (.getfield 85, 3) := by decide +kernel
theorem dX1_isLetIn_21 : decode cX1_isLetIn 21 = .ok (.invokevirtual 88, 3) := by decide +kernel
theorem dX1_isLetIn_24 : decode cX1_isLetIn 24 = .ok (.if_icmp .ge 15, 3) := by decide +kernel
theorem dX1_isLetIn_27 : decode cX1_isLetIn 27 = .ok (.aload_n 0, 1) := by decide +kernel
theorem dX1_isLetIn_28 : decode cX1_isLetIn 28 = .ok (.iload_n 2, 1) := by decide +kernel
theorem dX1_isLetIn_29 : decode cX1_isLetIn 29 = .ok (.invokevirtual 91, 3) := by decide +kernel
theorem dX1_isLetIn_32 : decode cX1_isLetIn 32 = .ok (.ifCond .eq 7, 3) := by decide +kernel
theorem dX1_isLetIn_35 : decode cX1_isLetIn 35 = .ok (.iconst 1, 1) := by decide +kernel
theorem dX1_isLetIn_36 : decode cX1_isLetIn 36 = .ok (.goto 4, 3) := by decide +kernel
theorem dX1_isLetIn_39 : decode cX1_isLetIn 39 = .ok (.iconst 0, 1) := by decide +kernel
theorem dX1_isLetIn_40 : decode cX1_isLetIn 40 = .ok (.ireturn, 1) := by decide +kernel
theorem dX1_isLet_0 : decode cX1_isLet 0 = .ok (.aload_n 0, 1) := by decide +kernel
theorem dX1_isLet_1 : decode cX1_isLet 1 = .ok (.getfield 18, 3) := by decide +kernel
theorem dX1_isLet_4 : decode cX1_isLet 4 = .ok (.getfield 99, 3) := by decide +kernel
theorem dX1_isLet_7 : decode cX1_isLet 7 = .ok (.iload_n 1, 1) := by decide +kernel
theorem dX1_isLet_8 : decode cX1_isLet 8 = .ok (.iaload, 1) := by decide +kernel
theorem dX1_isLet_9 : decode cX1_isLet 9 = .ok (.aload_n 0, 1) := by decide +kernel
theorem dX1_isLet_10 : decode cX1_isLet 10 = .ok (.getfield 48, 3) := by decide +kernel
theorem dX1_isLet_13 : decode cX1_isLet 13 = .ok (.invokestatic 78, 3) := by decide +kernel
