theorem dX0_init_0 : decode cX0_init 0 = .ok (.aload_n 0, 1) := o42 hcX0_init rfl
theorem dX0_init_1 : decode cX0_init 1 = .ok (.invokespecial 3, 3) := o183 hcX0_init rfl
theorem dX0_init_4 : decode cX0_init 4 = .ok (.aload_n 0, 1) := o42 hcX0_init rfl
theorem dX0_init_5 : decode cX0_init 5 = .ok (.bipush 20, 2) := o16 hcX0_init (a := 20) rfl rfl
theorem dX0_init_7 : decode cX0_init 7 = .ok (.newarray .int, 2) := by decide +kernel
theorem dX0_init_9 : decode cX0_init 9 = .ok (.putfield 11, 3) := o181 hcX0_init rfl
theorem dX0_init_12 : decode cX0_init 12 = .ok (.return_, 1) := o177 hcX0_init rfl
theorem dX0_forget_0 : decode cX0_forget 0 = .ok (.aload_n 0, 1) := o42 hcX0_forget rfl
theorem dX0_forget_1 : decode cX0_forget 1 = .ok (.iconst 0, 1) := o3 hcX0_forget rfl
theorem dX0_forget_2 : decode cX0_forget 2 = .ok (.putfield 15, 3) := o181 hcX0_forget rfl
theorem dX0_forget_5 : decode cX0_forget 5 = .ok (.return_, 1) := o177 hcX0_forget rfl
theorem dX0_begun_0 : decode cX0_begun 0 = .ok (.iload_n 1, 1) := o27 hcX0_begun rfl
theorem dX0_begun_1 : decode cX0_begun 1 = .ok (.aload_n 0, 1) := o42 hcX0_begun rfl
theorem dX0_begun_2 : decode cX0_begun 2 = .ok (.getfield 15, 3) := o180 hcX0_begun rfl
theorem dX0_begun_5 : decode cX0_begun 5 = .ok (.bipush 20, 2) := o16 hcX0_begun (a := 20) rfl rfl
theorem dX0_begun_7 : decode cX0_begun 7 = .ok (.invokestatic 19, 3) := o184 hcX0_begun rfl
theorem dX0_begun_10 : decode cX0_begun 10 = .ok (.iconst 1, 1) := o4 hcX0_begun rfl
theorem dX0_begun_11 : decode cX0_begun 11 = .ok (.isub, 1) := o100 hcX0_begun rfl
theorem dX0_begun_12 : decode cX0_begun 12 = .ok (.invokestatic 25, 3) := o184 hcX0_begun rfl
theorem dX0_begun_15 : decode cX0_begun 15 = .ok (.ifCond .eq 12, 3) := o153 hcX0_begun (a := 12) rfl rfl
theorem dX0_begun_18 : decode cX0_begun 18 = .ok (.aload_n 0, 1) := o42 hcX0_begun rfl
theorem dX0_begun_19 : decode cX0_begun 19 = .ok (.getfield 11, 3) := o180 hcX0_begun rfl
theorem dX0_begun_22 : decode cX0_begun 22 = .ok (.iload_n 1, 1) := o27 hcX0_begun rfl
theorem dX0_begun_23 : decode cX0_begun 23 = .ok (.iaload, 1) := o46 hcX0_begun rfl
theorem dX0_begun_24 : decode cX0_begun 24 = .ok (.goto 4, 3) := o167 hcX0_begun (a := 4) rfl rfl
theorem dX0_begun_27 : decode cX0_begun 27 = .ok (.iconst (-1), 1) := o2 hcX0_begun rfl
theorem dX0_begun_28 : decode cX0_begun 28 = .ok (.ireturn, 1) := o172 hcX0_begun rfl
theorem dX0_start_0 : decode cX0_start 0 = .ok (.aload_n 0, 1) := o42 hcX0_start rfl
theorem dX0_start_1 : decode cX0_start 1 = .ok (.iload_n 2, 1) := o28 hcX0_start rfl
theorem dX0_start_2 : decode cX0_start 2 = .ok (.putfield 29, 3) := o181 hcX0_start rfl
theorem dX0_start_5 : decode cX0_start 5 = .ok (.aload_n 0, 1) := o42 hcX0_start rfl
theorem dX0_start_6 : decode cX0_start 6 = .ok (.aload_n 1, 1) := o43 hcX0_start rfl
theorem dX0_start_7 : decode cX0_start 7 = .ok (.getfield 32, 3) := o180 hcX0_start rfl
theorem dX0_start_10 : decode cX0_start 10 = .ok (.iload_n 2, 1) := o28 hcX0_start rfl
theorem dX0_start_11 : decode cX0_start 11 = .ok (.iaload, 1) := o46 hcX0_start rfl
theorem dX0_start_12 : decode cX0_start 12 = .ok (.putfield 37, 3) := o181 hcX0_start rfl
theorem dX0_start_15 : decode cX0_start 15 = .ok (.aload_n 0, 1) := o42 hcX0_start rfl
theorem dX0_start_16 : decode cX0_start 16 = .ok (.aload_n 1, 1) := o43 hcX0_start rfl
theorem dX0_start_17 : decode cX0_start 17 = .ok (.getfield 40, 3) := o180 hcX0_start rfl
theorem dX0_start_20 : decode cX0_start 20 = .ok (.iload_n 2, 1) := o28 hcX0_start rfl
theorem dX0_start_21 : decode cX0_start 21 = .ok (.iaload, 1) := o46 hcX0_start rfl
theorem dX0_start_22 : decode cX0_start 22 = .ok (.putfield 43, 3) := o181 hcX0_start rfl
theorem dX0_start_25 : decode cX0_start 25 = .ok (.aload_n 0, 1) := o42 hcX0_start rfl
theorem dX0_start_26 : decode cX0_start 26 = .ok (.iload_n 3, 1) := o29 hcX0_start rfl
theorem dX0_start_27 : decode cX0_start 27 = .ok (.aload_n 0, 1) := o42 hcX0_start rfl
theorem dX0_start_28 : decode cX0_start 28 = .ok (.getfield 37, 3) := o180 hcX0_start rfl
theorem dX0_start_31 : decode cX0_start 31 = .ok (.iload 4, 2) := o21 hcX0_start rfl
theorem dX0_start_33 : decode cX0_start 33 = .ok (.iconst 0, 1) := o3 hcX0_start rfl
theorem dX0_start_34 : decode cX0_start 34 = .ok (.invokevirtual 46, 3) := o182 hcX0_start rfl
theorem dX0_start_37 : decode cX0_start 37 = .ok (.ireturn, 1) := o172 hcX0_start rfl
theorem dX0_call_0 : decode cX0_call 0 = .ok (.iload_n 2, 1) := o28 hcX0_call rfl
theorem dX0_call_1 : decode cX0_call 1 = .ok (.istore 5, 2) := o54 hcX0_call rfl
theorem dX0_call_3 : decode cX0_call 3 = .ok (.iconst 0, 1) := o3 hcX0_call rfl
theorem dX0_call_4 : decode cX0_call 4 = .ok (.istore 6, 2) := o54 hcX0_call rfl
theorem dX0_call_6 : decode cX0_call 6 = .ok (.iload 6, 2) := o21 hcX0_call rfl
theorem dX0_call_8 : decode cX0_call 8 = .ok (.bipush 6, 2) := o16 hcX0_call (a := 6) rfl rfl
theorem dX0_call_10 : decode cX0_call 10 = .ok (.if_icmp .gt 73, 3) := o163 hcX0_call (a := 73) rfl rfl
theorem dX0_call_13 : decode cX0_call 13 = .ok (.iload 5, 2) := o21 hcX0_call rfl
theorem dX0_call_15 : decode cX0_call 15 = .ok (.bipush 6, 2) := o16 hcX0_call (a := 6) rfl rfl
theorem dX0_call_17 : decode cX0_call 17 = .ok (.invokestatic 25, 3) := o184 hcX0_call rfl
theorem dX0_call_20 : decode cX0_call 20 = .ok (.ifCond .eq 63, 3) := o153 hcX0_call (a := 63) rfl rfl
theorem dX0_call_23 : decode cX0_call 23 = .ok (.getstatic 50, 3) := o178 hcX0_call rfl
theorem dX0_call_26 : decode cX0_call 26 = .ok (.iload 5, 2) := o21 hcX0_call rfl
theorem dX0_call_28 : decode cX0_call 28 = .ok (.iconst 3, 1) := o6 hcX0_call rfl
theorem dX0_call_29 : decode cX0_call 29 = .ok (.imul, 1) := o104 hcX0_call rfl
theorem dX0_call_30 : decode cX0_call 30 = .ok (.iload_n 1, 1) := o27 hcX0_call rfl
theorem dX0_call_31 : decode cX0_call 31 = .ok (.iadd, 1) := o96 hcX0_call rfl
theorem dX0_call_32 : decode cX0_call 32 = .ok (.iaload, 1) := o46 hcX0_call rfl
theorem dX0_call_33 : decode cX0_call 33 = .ok (.istore 7, 2) := o54 hcX0_call rfl
theorem dX0_call_35 : decode cX0_call 35 = .ok (.iload 7, 2) := o21 hcX0_call rfl
theorem dX0_call_37 : decode cX0_call 37 = .ok (.ifCond .eq 32, 3) := o153 hcX0_call (a := 32) rfl rfl
theorem dX0_call_40 : decode cX0_call 40 = .ok (.iload 4, 2) := o21 hcX0_call rfl
theorem dX0_call_42 : decode cX0_call 42 = .ok (.bipush 20, 2) := o16 hcX0_call (a := 20) rfl rfl
theorem dX0_call_44 : decode cX0_call 44 = .ok (.if_icmp .ge 23, 3) := o162 hcX0_call (a := 23) rfl rfl
theorem dX0_call_47 : decode cX0_call 47 = .ok (.aload_n 0, 1) := o42 hcX0_call rfl
theorem dX0_call_48 : decode cX0_call 48 = .ok (.iload 7, 2) := o21 hcX0_call rfl
theorem dX0_call_50 : decode cX0_call 50 = .ok (.getstatic 53, 3) := o178 hcX0_call rfl
theorem dX0_call_53 : decode cX0_call 53 = .ok (.iload 5, 2) := o21 hcX0_call rfl
theorem dX0_call_55 : decode cX0_call 55 = .ok (.iaload, 1) := o46 hcX0_call rfl
theorem dX0_call_56 : decode cX0_call 56 = .ok (.iload_n 3, 1) := o29 hcX0_call rfl
theorem dX0_call_57 : decode cX0_call 57 = .ok (.iload 4, 2) := o21 hcX0_call rfl
theorem dX0_call_59 : decode cX0_call 59 = .ok (.iconst 1, 1) := o4 hcX0_call rfl
theorem dX0_call_60 : decode cX0_call 60 = .ok (.iadd, 1) := o96 hcX0_call rfl
theorem dX0_call_61 : decode cX0_call 61 = .ok (.invokevirtual 56, 3) := o182 hcX0_call rfl
theorem dX0_call_64 : decode cX0_call 64 = .ok (.goto 4, 3) := o167 hcX0_call (a := 4) rfl rfl
theorem dX0_call_67 : decode cX0_call 67 = .ok (.iconst 0, 1) := o3 hcX0_call rfl
theorem dX0_call_68 : decode cX0_call 68 = .ok (.ireturn, 1) := o172 hcX0_call rfl
theorem dX0_call_69 : decode cX0_call 69 = .ok (.getstatic 53, 3) := o178 hcX0_call rfl
theorem dX0_call_72 : decode cX0_call 72 = .ok (.iload 5, 2) := o21 hcX0_call rfl
theorem dX0_call_74 : decode cX0_call 74 = .ok (.iaload, 1) := o46 hcX0_call rfl
theorem dX0_call_75 : decode cX0_call 75 = .ok (.istore 5, 2) := o54 hcX0_call rfl
theorem dX0_call_77 : decode cX0_call 77 = .ok (.iinc 6 1, 3) := o132 hcX0_call (b := 1) rfl rfl
theorem dX0_call_80 : decode cX0_call 80 = .ok (.goto (-74), 3) := o167 hcX0_call (a := 65462) rfl rfl
theorem dX0_call_83 : decode cX0_call 83 = .ok (.iconst 0, 1) := o3 hcX0_call rfl
theorem dX0_call_84 : decode cX0_call 84 = .ok (.ireturn, 1) := o172 hcX0_call rfl
theorem dX0_run_0 : decode cX0_run 0 = .ok (.aload_n 0, 1) := o42 hcX0_run rfl
theorem dX0_run_1 : decode cX0_run 1 = .ok (.iload_n 1, 1) := o27 hcX0_run rfl
theorem dX0_run_2 : decode cX0_run 2 = .ok (.invokevirtual 59, 3) := o182 hcX0_run rfl
theorem dX0_run_5 : decode cX0_run 5 = .ok (.iload_n 1, 1) := o27 hcX0_run rfl
theorem dX0_run_6 : decode cX0_run 6 = .ok (.lookupswitch 259 #[(10, 98), (11, 105), (12, 123), (20, 138), (30, 151), (40, 163), (50, 186), (51, 197), (60, 209), (70, 224), (71, 244)], 98) := by decide +kernel
theorem dX0_run_104 : decode cX0_run 104 = .ok (.iload_n 3, 1) := o29 hcX0_run rfl
theorem dX0_run_105 : decode cX0_run 105 = .ok (.aload_n 0, 1) := o42 hcX0_run rfl
theorem dX0_run_106 : decode cX0_run 106 = .ok (.getfield 29, 3) := o180 hcX0_run rfl
theorem dX0_run_109 : decode cX0_run 109 = .ok (.iadd, 1) := o96 hcX0_run rfl
theorem dX0_run_110 : decode cX0_run 110 = .ok (.ireturn, 1) := o172 hcX0_run rfl
theorem dX0_run_111 : decode cX0_run 111 = .ok (.aload_n 0, 1) := o42 hcX0_run rfl
theorem dX0_run_112 : decode cX0_run 112 = .ok (.iconst 0, 1) := o3 hcX0_run rfl
theorem dX0_run_113 : decode cX0_run 113 = .ok (.aload_n 0, 1) := o42 hcX0_run rfl
theorem dX0_run_114 : decode cX0_run 114 = .ok (.getfield 37, 3) := o180 hcX0_run rfl
theorem dX0_run_117 : decode cX0_run 117 = .ok (.iload_n 3, 1) := o29 hcX0_run rfl
theorem dX0_run_118 : decode cX0_run 118 = .ok (.iload 4, 2) := o21 hcX0_run rfl
theorem dX0_run_120 : decode cX0_run 120 = .ok (.invokevirtual 46, 3) := o182 hcX0_run rfl
theorem dX0_run_123 : decode cX0_run 123 = .ok (.aload_n 0, 1) := o42 hcX0_run rfl
theorem dX0_run_124 : decode cX0_run 124 = .ok (.getfield 43, 3) := o180 hcX0_run rfl
theorem dX0_run_127 : decode cX0_run 127 = .ok (.isub, 1) := o100 hcX0_run rfl
theorem dX0_run_128 : decode cX0_run 128 = .ok (.ireturn, 1) := o172 hcX0_run rfl
theorem dX0_run_129 : decode cX0_run 129 = .ok (.aload_n 0, 1) := o42 hcX0_run rfl
theorem dX0_run_130 : decode cX0_run 130 = .ok (.iconst 1, 1) := o4 hcX0_run rfl
theorem dX0_run_131 : decode cX0_run 131 = .ok (.aload_n 0, 1) := o42 hcX0_run rfl
theorem dX0_run_132 : decode cX0_run 132 = .ok (.getfield 37, 3) := o180 hcX0_run rfl
theorem dX0_run_135 : decode cX0_run 135 = .ok (.iload_n 3, 1) := o29 hcX0_run rfl
theorem dX0_run_136 : decode cX0_run 136 = .ok (.iload 4, 2) := o21 hcX0_run rfl
theorem dX0_run_138 : decode cX0_run 138 = .ok (.invokevirtual 46, 3) := o182 hcX0_run rfl
theorem dX0_run_141 : decode cX0_run 141 = .ok (.iconst 2, 1) := o5 hcX0_run rfl
theorem dX0_run_142 : decode cX0_run 142 = .ok (.imul, 1) := o104 hcX0_run rfl
theorem dX0_run_143 : decode cX0_run 143 = .ok (.ireturn, 1) := o172 hcX0_run rfl
theorem dX0_run_144 : decode cX0_run 144 = .ok (.aload_n 0, 1) := o42 hcX0_run rfl
theorem dX0_run_145 : decode cX0_run 145 = .ok (.iconst 1, 1) := o4 hcX0_run rfl
theorem dX0_run_146 : decode cX0_run 146 = .ok (.iload_n 2, 1) := o28 hcX0_run rfl
theorem dX0_run_147 : decode cX0_run 147 = .ok (.iload_n 3, 1) := o29 hcX0_run rfl
theorem dX0_run_148 : decode cX0_run 148 = .ok (.iload 4, 2) := o21 hcX0_run rfl
theorem dX0_run_150 : decode cX0_run 150 = .ok (.invokevirtual 46, 3) := o182 hcX0_run rfl
theorem dX0_run_153 : decode cX0_run 153 = .ok (.bipush 6, 2) := o16 hcX0_run (a := 6) rfl rfl
theorem dX0_run_155 : decode cX0_run 155 = .ok (.ixor, 1) := o130 hcX0_run rfl
theorem dX0_run_156 : decode cX0_run 156 = .ok (.ireturn, 1) := o172 hcX0_run rfl
theorem dX0_run_157 : decode cX0_run 157 = .ok (.aload_n 0, 1) := o42 hcX0_run rfl
theorem dX0_run_158 : decode cX0_run 158 = .ok (.iconst 0, 1) := o3 hcX0_run rfl
theorem dX0_run_159 : decode cX0_run 159 = .ok (.iload_n 2, 1) := o28 hcX0_run rfl
theorem dX0_run_160 : decode cX0_run 160 = .ok (.iload_n 3, 1) := o29 hcX0_run rfl
theorem dX0_run_161 : decode cX0_run 161 = .ok (.iconst 3, 1) := o6 hcX0_run rfl
theorem dX0_run_162 : decode cX0_run 162 = .ok (.imul, 1) := o104 hcX0_run rfl
theorem dX0_run_163 : decode cX0_run 163 = .ok (.iload 4, 2) := o21 hcX0_run rfl
theorem dX0_run_165 : decode cX0_run 165 = .ok (.invokevirtual 46, 3) := o182 hcX0_run rfl
theorem dX0_run_168 : decode cX0_run 168 = .ok (.ireturn, 1) := o172 hcX0_run rfl
theorem dX0_run_169 : decode cX0_run 169 = .ok (.aload_n 0, 1) := o42 hcX0_run rfl
theorem dX0_run_170 : decode cX0_run 170 = .ok (.iconst 2, 1) := o5 hcX0_run rfl
theorem dX0_run_171 : decode cX0_run 171 = .ok (.iload_n 2, 1) := o28 hcX0_run rfl
theorem dX0_run_172 : decode cX0_run 172 = .ok (.iload_n 3, 1) := o29 hcX0_run rfl
theorem dX0_run_173 : decode cX0_run 173 = .ok (.iload 4, 2) := o21 hcX0_run rfl
theorem dX0_run_175 : decode cX0_run 175 = .ok (.invokevirtual 46, 3) := o182 hcX0_run rfl
theorem dX0_run_178 : decode cX0_run 178 = .ok (.aload_n 0, 1) := o42 hcX0_run rfl
theorem dX0_run_179 : decode cX0_run 179 = .ok (.iconst 1, 1) := o4 hcX0_run rfl
theorem dX0_run_180 : decode cX0_run 180 = .ok (.aload_n 0, 1) := o42 hcX0_run rfl
theorem dX0_run_181 : decode cX0_run 181 = .ok (.getfield 37, 3) := o180 hcX0_run rfl
theorem dX0_run_184 : decode cX0_run 184 = .ok (.iconst 1, 1) := o4 hcX0_run rfl
theorem dX0_run_185 : decode cX0_run 185 = .ok (.iload 4, 2) := o21 hcX0_run rfl
theorem dX0_run_187 : decode cX0_run 187 = .ok (.invokevirtual 46, 3) := o182 hcX0_run rfl
theorem dX0_run_190 : decode cX0_run 190 = .ok (.iadd, 1) := o96 hcX0_run rfl
theorem dX0_run_191 : decode cX0_run 191 = .ok (.ireturn, 1) := o172 hcX0_run rfl
theorem dX0_run_192 : decode cX0_run 192 = .ok (.aload_n 0, 1) := o42 hcX0_run rfl
theorem dX0_run_193 : decode cX0_run 193 = .ok (.iconst 0, 1) := o3 hcX0_run rfl
theorem dX0_run_194 : decode cX0_run 194 = .ok (.iload_n 2, 1) := o28 hcX0_run rfl
theorem dX0_run_195 : decode cX0_run 195 = .ok (.iload_n 3, 1) := o29 hcX0_run rfl
theorem dX0_run_196 : decode cX0_run 196 = .ok (.iload 4, 2) := o21 hcX0_run rfl
theorem dX0_run_198 : decode cX0_run 198 = .ok (.invokevirtual 46, 3) := o182 hcX0_run rfl
theorem dX0_run_201 : decode cX0_run 201 = .ok (.ineg, 1) := o116 hcX0_run rfl
theorem dX0_run_202 : decode cX0_run 202 = .ok (.ireturn, 1) := o172 hcX0_run rfl
theorem dX0_run_203 : decode cX0_run 203 = .ok (.aload_n 0, 1) := o42 hcX0_run rfl
theorem dX0_run_204 : decode cX0_run 204 = .ok (.iconst 1, 1) := o4 hcX0_run rfl
theorem dX0_run_205 : decode cX0_run 205 = .ok (.iload_n 2, 1) := o28 hcX0_run rfl
theorem dX0_run_206 : decode cX0_run 206 = .ok (.iload_n 3, 1) := o29 hcX0_run rfl
theorem dX0_run_207 : decode cX0_run 207 = .ok (.iconst 1, 1) := o4 hcX0_run rfl
theorem dX0_run_208 : decode cX0_run 208 = .ok (.iadd, 1) := o96 hcX0_run rfl
theorem dX0_run_209 : decode cX0_run 209 = .ok (.iload 4, 2) := o21 hcX0_run rfl
theorem dX0_run_211 : decode cX0_run 211 = .ok (.invokevirtual 46, 3) := o182 hcX0_run rfl
theorem dX0_run_214 : decode cX0_run 214 = .ok (.ireturn, 1) := o172 hcX0_run rfl
theorem dX0_run_215 : decode cX0_run 215 = .ok (.aload_n 0, 1) := o42 hcX0_run rfl
theorem dX0_run_216 : decode cX0_run 216 = .ok (.iconst 2, 1) := o5 hcX0_run rfl
theorem dX0_run_217 : decode cX0_run 217 = .ok (.iload_n 2, 1) := o28 hcX0_run rfl
theorem dX0_run_218 : decode cX0_run 218 = .ok (.iload_n 3, 1) := o29 hcX0_run rfl
theorem dX0_run_219 : decode cX0_run 219 = .ok (.aload_n 0, 1) := o42 hcX0_run rfl
theorem dX0_run_220 : decode cX0_run 220 = .ok (.getfield 29, 3) := o180 hcX0_run rfl
theorem dX0_run_223 : decode cX0_run 223 = .ok (.isub, 1) := o100 hcX0_run rfl
theorem dX0_run_224 : decode cX0_run 224 = .ok (.iload 4, 2) := o21 hcX0_run rfl
theorem dX0_run_226 : decode cX0_run 226 = .ok (.invokevirtual 46, 3) := o182 hcX0_run rfl
theorem dX0_run_229 : decode cX0_run 229 = .ok (.ireturn, 1) := o172 hcX0_run rfl
theorem dX0_run_230 : decode cX0_run 230 = .ok (.aload_n 0, 1) := o42 hcX0_run rfl
theorem dX0_run_231 : decode cX0_run 231 = .ok (.iconst 1, 1) := o4 hcX0_run rfl
theorem dX0_run_232 : decode cX0_run 232 = .ok (.iload_n 2, 1) := o28 hcX0_run rfl
theorem dX0_run_233 : decode cX0_run 233 = .ok (.iload_n 3, 1) := o29 hcX0_run rfl
theorem dX0_run_234 : decode cX0_run 234 = .ok (.iload 4, 2) := o21 hcX0_run rfl
theorem dX0_run_236 : decode cX0_run 236 = .ok (.invokevirtual 46, 3) := o182 hcX0_run rfl
theorem dX0_run_239 : decode cX0_run 239 = .ok (.aload_n 0, 1) := o42 hcX0_run rfl
theorem dX0_run_240 : decode cX0_run 240 = .ok (.iconst 0, 1) := o3 hcX0_run rfl
theorem dX0_run_241 : decode cX0_run 241 = .ok (.iload_n 2, 1) := o28 hcX0_run rfl
theorem dX0_run_242 : decode cX0_run 242 = .ok (.iconst 2, 1) := o5 hcX0_run rfl
theorem dX0_run_243 : decode cX0_run 243 = .ok (.iload 4, 2) := o21 hcX0_run rfl
theorem dX0_run_245 : decode cX0_run 245 = .ok (.invokevirtual 46, 3) := o182 hcX0_run rfl
theorem dX0_run_248 : decode cX0_run 248 = .ok (.iadd, 1) := o96 hcX0_run rfl
theorem dX0_run_249 : decode cX0_run 249 = .ok (.ireturn, 1) := o172 hcX0_run rfl
theorem dX0_run_250 : decode cX0_run 250 = .ok (.aload_n 0, 1) := o42 hcX0_run rfl
theorem dX0_run_251 : decode cX0_run 251 = .ok (.iconst 0, 1) := o3 hcX0_run rfl
theorem dX0_run_252 : decode cX0_run 252 = .ok (.iload_n 2, 1) := o28 hcX0_run rfl
theorem dX0_run_253 : decode cX0_run 253 = .ok (.iload_n 3, 1) := o29 hcX0_run rfl
theorem dX0_run_254 : decode cX0_run 254 = .ok (.iload 4, 2) := o21 hcX0_run rfl
theorem dX0_run_256 : decode cX0_run 256 = .ok (.invokevirtual 46, 3) := o182 hcX0_run rfl
theorem dX0_run_259 : decode cX0_run 259 = .ok (.aload_n 0, 1) := o42 hcX0_run rfl
theorem dX0_run_260 : decode cX0_run 260 = .ok (.getfield 43, 3) := o180 hcX0_run rfl
theorem dX0_run_263 : decode cX0_run 263 = .ok (.ixor, 1) := o130 hcX0_run rfl
theorem dX0_run_264 : decode cX0_run 264 = .ok (.ireturn, 1) := o172 hcX0_run rfl
theorem dX0_run_265 : decode cX0_run 265 = .ok (.iconst 0, 1) := o3 hcX0_run rfl
theorem dX0_run_266 : decode cX0_run 266 = .ok (.ireturn, 1) := o172 hcX0_run rfl
theorem dX0_note_0 : decode cX0_note 0 = .ok (.aload_n 0, 1) := o42 hcX0_note rfl
theorem dX0_note_1 : decode cX0_note 1 = .ok (.getfield 15, 3) := o180 hcX0_note rfl
theorem dX0_note_4 : decode cX0_note 4 = .ok (.bipush 20, 2) := o16 hcX0_note (a := 20) rfl rfl
theorem dX0_note_6 : decode cX0_note 6 = .ok (.if_icmp .ge 13, 3) := o162 hcX0_note (a := 13) rfl rfl
theorem dX0_note_9 : decode cX0_note 9 = .ok (.aload_n 0, 1) := o42 hcX0_note rfl
theorem dX0_note_10 : decode cX0_note 10 = .ok (.getfield 11, 3) := o180 hcX0_note rfl
theorem dX0_note_13 : decode cX0_note 13 = .ok (.aload_n 0, 1) := o42 hcX0_note rfl
theorem dX0_note_14 : decode cX0_note 14 = .ok (.getfield 15, 3) := o180 hcX0_note rfl
theorem dX0_note_17 : decode cX0_note 17 = .ok (.iload_n 1, 1) := o27 hcX0_note rfl
theorem dX0_note_18 : decode cX0_note 18 = .ok (.iastore, 1) := o79 hcX0_note rfl
theorem dX0_note_19 : decode cX0_note 19 = .ok (.aload_n 0, 1) := o42 hcX0_note rfl
theorem dX0_note_20 : decode cX0_note 20 = .ok (.dup, 1) := o89 hcX0_note rfl
theorem dX0_note_21 : decode cX0_note 21 = .ok (.getfield 15, 3) := o180 hcX0_note rfl
theorem dX0_note_24 : decode cX0_note 24 = .ok (.iconst 1, 1) := o4 hcX0_note rfl
theorem dX0_note_25 : decode cX0_note 25 = .ok (.iadd, 1) := o96 hcX0_note rfl
theorem dX0_note_26 : decode cX0_note 26 = .ok (.putfield 15, 3) := o181 hcX0_note rfl
theorem dX0_note_29 : decode cX0_note 29 = .ok (.return_, 1) := o177 hcX0_note rfl
theorem dX1_init_0 : decode cX1_init 0 = .ok (.aload_n 0, 1) := o42 hcX1_init rfl
theorem dX1_init_1 : decode cX1_init 1 = .ok (.invokespecial 3, 3) := o183 hcX1_init rfl
theorem dX1_init_4 : decode cX1_init 4 = .ok (.aload_n 0, 1) := o42 hcX1_init rfl
theorem dX1_init_5 : decode cX1_init 5 = .ok (.bipush 6, 2) := o16 hcX1_init (a := 6) rfl rfl
theorem dX1_init_7 : decode cX1_init 7 = .ok (.newarray .int, 2) := by decide +kernel
theorem dX1_init_9 : decode cX1_init 9 = .ok (.putfield 9, 3) := o181 hcX1_init rfl
theorem dX1_init_12 : decode cX1_init 12 = .ok (.aload_n 0, 1) := o42 hcX1_init rfl
theorem dX1_init_13 : decode cX1_init 13 = .ok (.bipush 6, 2) := o16 hcX1_init (a := 6) rfl rfl
theorem dX1_init_15 : decode cX1_init 15 = .ok (.newarray .int, 2) := by decide +kernel
theorem dX1_init_17 : decode cX1_init 17 = .ok (.putfield 15, 3) := o181 hcX1_init rfl
theorem dX1_init_20 : decode cX1_init 20 = .ok (.aload_n 0, 1) := o42 hcX1_init rfl
theorem dX1_init_21 : decode cX1_init 21 = .ok (.aload_n 1, 1) := o43 hcX1_init rfl
theorem dX1_init_22 : decode cX1_init 22 = .ok (.putfield 18, 3) := o181 hcX1_init rfl
theorem dX1_init_25 : decode cX1_init 25 = .ok (.aload_n 0, 1) := o42 hcX1_init rfl
theorem dX1_init_26 : decode cX1_init 26 = .ok (.aload_n 2, 1) := o44 hcX1_init rfl
theorem dX1_init_27 : decode cX1_init 27 = .ok (.putfield 22, 3) := o181 hcX1_init rfl
theorem dX1_init_30 : decode cX1_init 30 = .ok (.return_, 1) := o177 hcX1_init rfl
theorem dX1_measure_0 : decode cX1_measure 0 = .ok (.aload_n 0, 1) := o42 hcX1_measure rfl
theorem dX1_measure_1 : decode cX1_measure 1 = .ok (.getfield 22, 3) := o180 hcX1_measure rfl
theorem dX1_measure_4 : decode cX1_measure 4 = .ok (.aload_n 0, 1) := o42 hcX1_measure rfl
theorem dX1_measure_5 : decode cX1_measure 5 = .ok (.getfield 18, 3) := o180 hcX1_measure rfl
theorem dX1_measure_8 : decode cX1_measure 8 = .ok (.iload_n 1, 1) := o27 hcX1_measure rfl
theorem dX1_measure_9 : decode cX1_measure 9 = .ok (.iload_n 2, 1) := o28 hcX1_measure rfl
theorem dX1_measure_10 : decode cX1_measure 10 = .ok (.iload_n 3, 1) := o29 hcX1_measure rfl
theorem dX1_measure_11 : decode cX1_measure 11 = .ok (.invokevirtual 26, 3) := o182 hcX1_measure rfl
theorem dX1_measure_14 : decode cX1_measure 14 = .ok (.aload_n 0, 1) := o42 hcX1_measure rfl
theorem dX1_measure_15 : decode cX1_measure 15 = .ok (.getfield 9, 3) := o180 hcX1_measure rfl
theorem dX1_measure_18 : decode cX1_measure 18 = .ok (.iload_n 2, 1) := o28 hcX1_measure rfl
theorem dX1_measure_19 : decode cX1_measure 19 = .ok (.aload_n 0, 1) := o42 hcX1_measure rfl
theorem dX1_measure_20 : decode cX1_measure 20 = .ok (.getfield 22, 3) := o180 hcX1_measure rfl
theorem dX1_measure_23 : decode cX1_measure 23 = .ok (.getfield 32, 3) := o180 hcX1_measure rfl
theorem dX1_measure_26 : decode cX1_measure 26 = .ok (.iastore, 1) := o79 hcX1_measure rfl
theorem dX1_measure_27 : decode cX1_measure 27 = .ok (.aload_n 0, 1) := o42 hcX1_measure rfl
theorem dX1_measure_28 : decode cX1_measure 28 = .ok (.getfield 15, 3) := o180 hcX1_measure rfl
theorem dX1_measure_31 : decode cX1_measure 31 = .ok (.iload_n 2, 1) := o28 hcX1_measure rfl
theorem dX1_measure_32 : decode cX1_measure 32 = .ok (.aload_n 0, 1) := o42 hcX1_measure rfl
theorem dX1_measure_33 : decode cX1_measure 33 = .ok (.getfield 22, 3) := o180 hcX1_measure rfl
theorem dX1_measure_36 : decode cX1_measure 36 = .ok (.getfield 36, 3) := o180 hcX1_measure rfl
theorem dX1_measure_39 : decode cX1_measure 39 = .ok (.iload_n 3, 1) := o29 hcX1_measure rfl
theorem dX1_measure_40 : decode cX1_measure 40 = .ok (.imul, 1) := o104 hcX1_measure rfl
theorem dX1_measure_41 : decode cX1_measure 41 = .ok (.aload_n 0, 1) := o42 hcX1_measure rfl
theorem dX1_measure_42 : decode cX1_measure 42 = .ok (.getfield 18, 3) := o180 hcX1_measure rfl
theorem dX1_measure_45 : decode cX1_measure 45 = .ok (.getfield 39, 3) := o180 hcX1_measure rfl
theorem dX1_measure_48 : decode cX1_measure 48 = .ok (.iload_n 1, 1) := o27 hcX1_measure rfl
theorem dX1_measure_49 : decode cX1_measure 49 = .ok (.iaload, 1) := o46 hcX1_measure rfl
theorem dX1_measure_50 : decode cX1_measure 50 = .ok (.invokestatic 44, 3) := o184 hcX1_measure rfl
theorem dX1_measure_53 : decode cX1_measure 53 = .ok (.iastore, 1) := o79 hcX1_measure rfl
theorem dX1_measure_54 : decode cX1_measure 54 = .ok (.return_, 1) := o177 hcX1_measure rfl
theorem dX1_begin_0 : decode cX1_begin 0 = .ok (.aload_n 0, 1) := o42 hcX1_begin rfl
theorem dX1_begin_1 : decode cX1_begin 1 = .ok (.iload_n 1, 1) := o27 hcX1_begin rfl
theorem dX1_begin_2 : decode cX1_begin 2 = .ok (.putfield 48, 3) := o181 hcX1_begin rfl
theorem dX1_begin_5 : decode cX1_begin 5 = .ok (.aload_n 0, 1) := o42 hcX1_begin rfl
theorem dX1_begin_6 : decode cX1_begin 6 = .ok (.iload_n 2, 1) := o28 hcX1_begin rfl
theorem dX1_begin_7 : decode cX1_begin 7 = .ok (.putfield 51, 3) := o181 hcX1_begin rfl
theorem dX1_begin_10 : decode cX1_begin 10 = .ok (.aload_n 0, 1) := o42 hcX1_begin rfl
theorem dX1_begin_11 : decode cX1_begin 11 = .ok (.aload_n 0, 1) := o42 hcX1_begin rfl
theorem dX1_begin_12 : decode cX1_begin 12 = .ok (.getfield 18, 3) := o180 hcX1_begin rfl
theorem dX1_begin_15 : decode cX1_begin 15 = .ok (.getfield 54, 3) := o180 hcX1_begin rfl
theorem dX1_begin_18 : decode cX1_begin 18 = .ok (.iload_n 1, 1) := o27 hcX1_begin rfl
theorem dX1_begin_19 : decode cX1_begin 19 = .ok (.iaload, 1) := o46 hcX1_begin rfl
theorem dX1_begin_20 : decode cX1_begin 20 = .ok (.putfield 57, 3) := o181 hcX1_begin rfl
theorem dX1_begin_23 : decode cX1_begin 23 = .ok (.aload_n 0, 1) := o42 hcX1_begin rfl
theorem dX1_begin_24 : decode cX1_begin 24 = .ok (.aload_n 0, 1) := o42 hcX1_begin rfl
theorem dX1_begin_25 : decode cX1_begin 25 = .ok (.getfield 18, 3) := o180 hcX1_begin rfl
theorem dX1_begin_28 : decode cX1_begin 28 = .ok (.getfield 60, 3) := o180 hcX1_begin rfl
theorem dX1_begin_31 : decode cX1_begin 31 = .ok (.iload_n 1, 1) := o27 hcX1_begin rfl
theorem dX1_begin_32 : decode cX1_begin 32 = .ok (.iaload, 1) := o46 hcX1_begin rfl
theorem dX1_begin_33 : decode cX1_begin 33 = .ok (.putfield 63, 3) := o181 hcX1_begin rfl
theorem dX1_begin_36 : decode cX1_begin 36 = .ok (.aload_n 0, 1) := o42 hcX1_begin rfl
theorem dX1_begin_37 : decode cX1_begin 37 = .ok (.iconst 0, 1) := o3 hcX1_begin rfl
theorem dX1_begin_38 : decode cX1_begin 38 = .ok (.putfield 66, 3) := o181 hcX1_begin rfl
theorem dX1_begin_41 : decode cX1_begin 41 = .ok (.aload_n 0, 1) := o42 hcX1_begin rfl
theorem dX1_begin_42 : decode cX1_begin 42 = .ok (.iconst 0, 1) := o3 hcX1_begin rfl
theorem dX1_begin_43 : decode cX1_begin 43 = .ok (.putfield 69, 3) := o181 hcX1_begin rfl
theorem dX1_begin_46 : decode cX1_begin 46 = .ok (.return_, 1) := o177 hcX1_begin rfl
theorem dX1_reach_0 : decode cX1_reach 0 = .ok (.aload_n 0, 1) := o42 hcX1_reach rfl
theorem dX1_reach_1 : decode cX1_reach 1 = .ok (.dup, 1) := o89 hcX1_reach rfl
theorem dX1_reach_2 : decode cX1_reach 2 = .ok (.getfield 51, 3) := o180 hcX1_reach rfl
theorem dX1_reach_5 : decode cX1_reach 5 = .ok (.aload_n 0, 1) := o42 hcX1_reach rfl
theorem dX1_reach_6 : decode cX1_reach 6 = .ok (.getfield 9, 3) := o180 hcX1_reach rfl
theorem dX1_reach_9 : decode cX1_reach 9 = .ok (.iload_n 1, 1) := o27 hcX1_reach rfl
theorem dX1_reach_10 : decode cX1_reach 10 = .ok (.iaload, 1) := o46 hcX1_reach rfl
theorem dX1_reach_11 : decode cX1_reach 11 = .ok (.iload_n 1, 1) := o27 hcX1_reach rfl
theorem dX1_reach_12 : decode cX1_reach 12 = .ok (.aload_n 0, 1) := o42 hcX1_reach rfl
theorem dX1_reach_13 : decode cX1_reach 13 = .ok (.getfield 57, 3) := o180 hcX1_reach rfl
theorem dX1_reach_16 : decode cX1_reach 16 = .ok (.isub, 1) := o100 hcX1_reach rfl
theorem dX1_reach_17 : decode cX1_reach 17 = .ok (.invokestatic 72, 3) := o184 hcX1_reach rfl
theorem dX1_reach_20 : decode cX1_reach 20 = .ok (.imul, 1) := o104 hcX1_reach rfl
theorem dX1_reach_21 : decode cX1_reach 21 = .ok (.iadd, 1) := o96 hcX1_reach rfl
theorem dX1_reach_22 : decode cX1_reach 22 = .ok (.putfield 51, 3) := o181 hcX1_reach rfl
theorem dX1_reach_25 : decode cX1_reach 25 = .ok (.aload_n 0, 1) := o42 hcX1_reach rfl
theorem dX1_reach_26 : decode cX1_reach 26 = .ok (.getfield 69, 3) := o180 hcX1_reach rfl
theorem dX1_reach_29 : decode cX1_reach 29 = .ok (.iload_n 1, 1) := o27 hcX1_reach rfl
theorem dX1_reach_30 : decode cX1_reach 30 = .ok (.invokestatic 78, 3) := o184 hcX1_reach rfl
theorem dX1_reach_33 : decode cX1_reach 33 = .ok (.ifCond .ne 31, 3) := o154 hcX1_reach (a := 31) rfl rfl
theorem dX1_reach_36 : decode cX1_reach 36 = .ok (.aload_n 0, 1) := o42 hcX1_reach rfl
theorem dX1_reach_37 : decode cX1_reach 37 = .ok (.dup, 1) := o89 hcX1_reach rfl
theorem dX1_reach_38 : decode cX1_reach 38 = .ok (.getfield 51, 3) := o180 hcX1_reach rfl
theorem dX1_reach_41 : decode cX1_reach 41 = .ok (.aload_n 0, 1) := o42 hcX1_reach rfl
theorem dX1_reach_42 : decode cX1_reach 42 = .ok (.getfield 15, 3) := o180 hcX1_reach rfl
theorem dX1_reach_45 : decode cX1_reach 45 = .ok (.iload_n 1, 1) := o27 hcX1_reach rfl
theorem dX1_reach_46 : decode cX1_reach 46 = .ok (.iaload, 1) := o46 hcX1_reach rfl
theorem dX1_reach_47 : decode cX1_reach 47 = .ok (.iadd, 1) := o96 hcX1_reach rfl
theorem dX1_reach_48 : decode cX1_reach 48 = .ok (.putfield 51, 3) := o181 hcX1_reach rfl
theorem dX1_reach_51 : decode cX1_reach 51 = .ok (.aload_n 0, 1) := o42 hcX1_reach rfl
theorem dX1_reach_52 : decode cX1_reach 52 = .ok (.aload_n 0, 1) := o42 hcX1_reach rfl
theorem dX1_reach_53 : decode cX1_reach 53 = .ok (.getfield 69, 3) := o180 hcX1_reach rfl
theorem dX1_reach_56 : decode cX1_reach 56 = .ok (.iload_n 1, 1) := o27 hcX1_reach rfl
theorem dX1_reach_57 : decode cX1_reach 57 = .ok (.iconst 1, 1) := o4 hcX1_reach rfl
theorem dX1_reach_58 : decode cX1_reach 58 = .ok (.invokestatic 81, 3) := o184 hcX1_reach rfl
theorem dX1_reach_61 : decode cX1_reach 61 = .ok (.putfield 69, 3) := o181 hcX1_reach rfl
theorem dX1_reach_64 : decode cX1_reach 64 = .ok (.aload_n 0, 1) := o42 hcX1_reach rfl
theorem dX1_reach_65 : decode cX1_reach 65 = .ok (.iload_n 1, 1) := o27 hcX1_reach rfl
theorem dX1_reach_66 : decode cX1_reach 66 = .ok (.putfield 57, 3) := o181 hcX1_reach rfl
theorem dX1_reach_69 : decode cX1_reach 69 = .ok (.aload_n 0, 1) := o42 hcX1_reach rfl
theorem dX1_reach_70 : decode cX1_reach 70 = .ok (.getfield 51, 3) := o180 hcX1_reach rfl
theorem dX1_reach_73 : decode cX1_reach 73 = .ok (.aload_n 0, 1) := o42 hcX1_reach rfl
theorem dX1_reach_74 : decode cX1_reach 74 = .ok (.getfield 22, 3) := o180 hcX1_reach rfl
theorem dX1_reach_77 : decode cX1_reach 77 = .ok (.aload_n 0, 1) := o42 hcX1_reach rfl
theorem dX1_reach_78 : decode cX1_reach 78 = .ok (.getfield 18, 3) := o180 hcX1_reach rfl
theorem dX1_reach_81 : decode cX1_reach 81 = .ok (.getfield 85, 3) := o180 hcX1_reach rfl
theorem dX1_reach_84 : decode cX1_reach 84 = .ok (.invokevirtual 88, 3) := o182 hcX1_reach rfl
theorem dX1_reach_87 : decode cX1_reach 87 = .ok (.if_icmp .ge 15, 3) := o162 hcX1_reach (a := 15) rfl rfl
theorem dX1_reach_90 : decode cX1_reach 90 = .ok (.aload_n 0, 1) := o42 hcX1_reach rfl
theorem dX1_reach_91 : decode cX1_reach 91 = .ok (.iload_n 1, 1) := o27 hcX1_reach rfl
theorem dX1_reach_92 : decode cX1_reach 92 = .ok (.invokevirtual 91, 3) := o182 hcX1_reach rfl
theorem dX1_reach_95 : decode cX1_reach 95 = .ok (.ifCond .eq 7, 3) := o153 hcX1_reach (a := 7) rfl rfl
theorem dX1_reach_98 : decode cX1_reach 98 = .ok (.iconst 1, 1) := o4 hcX1_reach rfl
theorem dX1_reach_99 : decode cX1_reach 99 = .ok (.goto 4, 3) := o167 hcX1_reach (a := 4) rfl rfl
theorem dX1_reach_102 : decode cX1_reach 102 = .ok (.iconst 0, 1) := o3 hcX1_reach rfl
theorem dX1_reach_103 : decode cX1_reach 103 = .ok (.istore_n 2, 1) := o61 hcX1_reach rfl
theorem dX1_reach_104 : decode cX1_reach 104 = .ok (.iload_n 2, 1) := o28 hcX1_reach rfl
theorem dX1_reach_105 : decode cX1_reach 105 = .ok (.ifCond .eq 16, 3) := o153 hcX1_reach (a := 16) rfl rfl
theorem dX1_reach_108 : decode cX1_reach 108 = .ok (.aload_n 0, 1) := o42 hcX1_reach rfl
theorem dX1_reach_109 : decode cX1_reach 109 = .ok (.aload_n 0, 1) := o42 hcX1_reach rfl
theorem dX1_reach_110 : decode cX1_reach 110 = .ok (.getfield 66, 3) := o180 hcX1_reach rfl
theorem dX1_reach_113 : decode cX1_reach 113 = .ok (.iload_n 1, 1) := o27 hcX1_reach rfl
theorem dX1_reach_114 : decode cX1_reach 114 = .ok (.iconst 1, 1) := o4 hcX1_reach rfl
theorem dX1_reach_115 : decode cX1_reach 115 = .ok (.invokestatic 81, 3) := o184 hcX1_reach rfl
theorem dX1_reach_118 : decode cX1_reach 118 = .ok (.putfield 66, 3) := o181 hcX1_reach rfl
theorem dX1_reach_121 : decode cX1_reach 121 = .ok (.iload_n 2, 1) := o28 hcX1_reach rfl
theorem dX1_reach_122 : decode cX1_reach 122 = .ok (.ireturn, 1) := o172 hcX1_reach rfl
theorem dX1_isLetIn_0 : decode cX1_isLetIn 0 = .ok (.aload_n 0, 1) := o42 hcX1_isLetIn rfl
theorem dX1_isLetIn_1 : decode cX1_isLetIn 1 = .ok (.iload_n 1, 1) := o27 hcX1_isLetIn rfl
theorem dX1_isLetIn_2 : decode cX1_isLetIn 2 = .ok (.iload_n 3, 1) := o29 hcX1_isLetIn rfl
theorem dX1_isLetIn_3 : decode cX1_isLetIn 3 = .ok (.invokevirtual 95, 3) := o182 hcX1_isLetIn rfl
theorem dX1_isLetIn_6 : decode cX1_isLetIn 6 = .ok (.aload_n 0, 1) := o42 hcX1_isLetIn rfl
theorem dX1_isLetIn_7 : decode cX1_isLetIn 7 = .ok (.getfield 51, 3) := o180 hcX1_isLetIn rfl
theorem dX1_isLetIn_10 : decode cX1_isLetIn 10 = .ok (.aload_n 0, 1) := o42 hcX1_isLetIn rfl
theorem dX1_isLetIn_11 : decode cX1_isLetIn 11 = .ok (.getfield 22, 3) := o180 hcX1_isLetIn rfl
theorem dX1_isLetIn_14 : decode cX1_isLetIn 14 = .ok (.aload_n 0, 1) := o42 hcX1_isLetIn rfl
theorem dX1_isLetIn_15 : decode cX1_isLetIn 15 = .ok (.getfield 18, 3) := o180 hcX1_isLetIn rfl
theorem dX1_isLetIn_18 : decode cX1_isLetIn 18 = .ok (.getfield 85, 3) := o180 hcX1_isLetIn rfl
theorem dX1_isLetIn_21 : decode cX1_isLetIn 21 = .ok (.invokevirtual 88, 3) := o182 hcX1_isLetIn rfl
theorem dX1_isLetIn_24 : decode cX1_isLetIn 24 = .ok (.if_icmp .ge 15, 3) := o162 hcX1_isLetIn (a := 15) rfl rfl
theorem dX1_isLetIn_27 : decode cX1_isLetIn 27 = .ok (.aload_n 0, 1) := o42 hcX1_isLetIn rfl
theorem dX1_isLetIn_28 : decode cX1_isLetIn 28 = .ok (.iload_n 2, 1) := o28 hcX1_isLetIn rfl
theorem dX1_isLetIn_29 : decode cX1_isLetIn 29 = .ok (.invokevirtual 91, 3) := o182 hcX1_isLetIn rfl
theorem dX1_isLetIn_32 : decode cX1_isLetIn 32 = .ok (.ifCond .eq 7, 3) := o153 hcX1_isLetIn (a := 7) rfl rfl
theorem dX1_isLetIn_35 : decode cX1_isLetIn 35 = .ok (.iconst 1, 1) := o4 hcX1_isLetIn rfl
theorem dX1_isLetIn_36 : decode cX1_isLetIn 36 = .ok (.goto 4, 3) := o167 hcX1_isLetIn (a := 4) rfl rfl
theorem dX1_isLetIn_39 : decode cX1_isLetIn 39 = .ok (.iconst 0, 1) := o3 hcX1_isLetIn rfl
theorem dX1_isLetIn_40 : decode cX1_isLetIn 40 = .ok (.ireturn, 1) := o172 hcX1_isLetIn rfl
theorem dX1_isLet_0 : decode cX1_isLet 0 = .ok (.aload_n 0, 1) := o42 hcX1_isLet rfl
theorem dX1_isLet_1 : decode cX1_isLet 1 = .ok (.getfield 18, 3) := o180 hcX1_isLet rfl
theorem dX1_isLet_4 : decode cX1_isLet 4 = .ok (.getfield 99, 3) := o180 hcX1_isLet rfl
theorem dX1_isLet_7 : decode cX1_isLet 7 = .ok (.iload_n 1, 1) := o27 hcX1_isLet rfl
theorem dX1_isLet_8 : decode cX1_isLet 8 = .ok (.iaload, 1) := o46 hcX1_isLet rfl
theorem dX1_isLet_9 : decode cX1_isLet 9 = .ok (.aload_n 0, 1) := o42 hcX1_isLet rfl
theorem dX1_isLet_10 : decode cX1_isLet 10 = .ok (.getfield 48, 3) := o180 hcX1_isLet rfl
theorem dX1_isLet_13 : decode cX1_isLet 13 = .ok (.invokestatic 78, 3) := o184 hcX1_isLet rfl
theorem dX1_isLet_16 : decode cX1_isLet 16 = .ok (.iconst 1, 1) := o4 hcX1_isLet rfl
theorem dX1_isLet_17 : decode cX1_isLet 17 = .ok (.if_icmp .ne 5, 3) := o160 hcX1_isLet (a := 5) rfl rfl
theorem dX1_isLet_20 : decode cX1_isLet 20 = .ok (.iconst 1, 1) := o4 hcX1_isLet rfl
theorem dX1_isLet_21 : decode cX1_isLet 21 = .ok (.ireturn, 1) := o172 hcX1_isLet rfl
theorem dX1_isLet_22 : decode cX1_isLet 22 = .ok (.aload_n 0, 1) := o42 hcX1_isLet rfl
theorem dX1_isLet_23 : decode cX1_isLet 23 = .ok (.getfield 18, 3) := o180 hcX1_isLet rfl
theorem dX1_isLet_26 : decode cX1_isLet 26 = .ok (.getfield 102, 3) := o180 hcX1_isLet rfl
theorem dX1_isLet_29 : decode cX1_isLet 29 = .ok (.iload_n 1, 1) := o27 hcX1_isLet rfl
theorem dX1_isLet_30 : decode cX1_isLet 30 = .ok (.iaload, 1) := o46 hcX1_isLet rfl
theorem dX1_isLet_31 : decode cX1_isLet 31 = .ok (.istore_n 2, 1) := o61 hcX1_isLet rfl
theorem dX1_isLet_32 : decode cX1_isLet 32 = .ok (.aload_n 0, 1) := o42 hcX1_isLet rfl
theorem dX1_isLet_33 : decode cX1_isLet 33 = .ok (.getfield 18, 3) := o180 hcX1_isLet rfl
theorem dX1_isLet_36 : decode cX1_isLet 36 = .ok (.getfield 105, 3) := o180 hcX1_isLet rfl
theorem dX1_isLet_39 : decode cX1_isLet 39 = .ok (.iload_n 1, 1) := o27 hcX1_isLet rfl
theorem dX1_isLet_40 : decode cX1_isLet 40 = .ok (.iaload, 1) := o46 hcX1_isLet rfl
theorem dX1_isLet_41 : decode cX1_isLet 41 = .ok (.tableswitch 136 1 6 #[39, 45, 52, 58, 78, 100], 39) := by decide +kernel
theorem dX1_isLet_80 : decode cX1_isLet 80 = .ok (.aload_n 0, 1) := o42 hcX1_isLet rfl
theorem dX1_isLet_81 : decode cX1_isLet 81 = .ok (.iload_n 2, 1) := o28 hcX1_isLet rfl
theorem dX1_isLet_82 : decode cX1_isLet 82 = .ok (.invokevirtual 108, 3) := o182 hcX1_isLet rfl
theorem dX1_isLet_85 : decode cX1_isLet 85 = .ok (.ireturn, 1) := o172 hcX1_isLet rfl
theorem dX1_isLet_86 : decode cX1_isLet 86 = .ok (.aload_n 0, 1) := o42 hcX1_isLet rfl
theorem dX1_isLet_87 : decode cX1_isLet 87 = .ok (.iload_n 1, 1) := o27 hcX1_isLet rfl
theorem dX1_isLet_88 : decode cX1_isLet 88 = .ok (.iload_n 2, 1) := o28 hcX1_isLet rfl
theorem dX1_isLet_89 : decode cX1_isLet 89 = .ok (.invokevirtual 111, 3) := o182 hcX1_isLet rfl
theorem dX1_isLet_92 : decode cX1_isLet 92 = .ok (.ireturn, 1) := o172 hcX1_isLet rfl
theorem dX1_isLet_93 : decode cX1_isLet 93 = .ok (.aload_n 0, 1) := o42 hcX1_isLet rfl
theorem dX1_isLet_94 : decode cX1_isLet 94 = .ok (.iload_n 2, 1) := o28 hcX1_isLet rfl
theorem dX1_isLet_95 : decode cX1_isLet 95 = .ok (.invokevirtual 115, 3) := o182 hcX1_isLet rfl
theorem dX1_isLet_98 : decode cX1_isLet 98 = .ok (.ireturn, 1) := o172 hcX1_isLet rfl
theorem dX1_isLet_99 : decode cX1_isLet 99 = .ok (.iload_n 2, 1) := o28 hcX1_isLet rfl
theorem dX1_isLet_100 : decode cX1_isLet 100 = .ok (.bipush 7, 2) := o16 hcX1_isLet (a := 7) rfl rfl
theorem dX1_isLet_102 : decode cX1_isLet 102 = .ok (.if_icmp .gt 11, 3) := o163 hcX1_isLet (a := 11) rfl rfl
theorem dX1_isLet_105 : decode cX1_isLet 105 = .ok (.aload_n 0, 1) := o42 hcX1_isLet rfl
theorem dX1_isLet_106 : decode cX1_isLet 106 = .ok (.iload_n 2, 1) := o28 hcX1_isLet rfl
theorem dX1_isLet_107 : decode cX1_isLet 107 = .ok (.invokevirtual 108, 3) := o182 hcX1_isLet rfl
theorem dX1_isLet_110 : decode cX1_isLet 110 = .ok (.ifCond .eq 7, 3) := o153 hcX1_isLet (a := 7) rfl rfl
theorem dX1_isLet_113 : decode cX1_isLet 113 = .ok (.iconst 1, 1) := o4 hcX1_isLet rfl
theorem dX1_isLet_114 : decode cX1_isLet 114 = .ok (.goto 4, 3) := o167 hcX1_isLet (a := 4) rfl rfl
theorem dX1_isLet_117 : decode cX1_isLet 117 = .ok (.iconst 0, 1) := o3 hcX1_isLet rfl
theorem dX1_isLet_118 : decode cX1_isLet 118 = .ok (.ireturn, 1) := o172 hcX1_isLet rfl
theorem dX1_isLet_119 : decode cX1_isLet 119 = .ok (.aload_n 0, 1) := o42 hcX1_isLet rfl
theorem dX1_isLet_120 : decode cX1_isLet 120 = .ok (.getfield 63, 3) := o180 hcX1_isLet rfl
theorem dX1_isLet_123 : decode cX1_isLet 123 = .ok (.ifCond .le 16, 3) := o158 hcX1_isLet (a := 16) rfl rfl
theorem dX1_isLet_126 : decode cX1_isLet 126 = .ok (.aload_n 0, 1) := o42 hcX1_isLet rfl
theorem dX1_isLet_127 : decode cX1_isLet 127 = .ok (.iload_n 1, 1) := o27 hcX1_isLet rfl
theorem dX1_isLet_128 : decode cX1_isLet 128 = .ok (.iload_n 2, 1) := o28 hcX1_isLet rfl
theorem dX1_isLet_129 : decode cX1_isLet 129 = .ok (.invokevirtual 111, 3) := o182 hcX1_isLet rfl
theorem dX1_isLet_132 : decode cX1_isLet 132 = .ok (.ifCond .eq 7, 3) := o153 hcX1_isLet (a := 7) rfl rfl
theorem dX1_isLet_135 : decode cX1_isLet 135 = .ok (.iconst 1, 1) := o4 hcX1_isLet rfl
theorem dX1_isLet_136 : decode cX1_isLet 136 = .ok (.goto 4, 3) := o167 hcX1_isLet (a := 4) rfl rfl
theorem dX1_isLet_139 : decode cX1_isLet 139 = .ok (.iconst 0, 1) := o3 hcX1_isLet rfl
theorem dX1_isLet_140 : decode cX1_isLet 140 = .ok (.ireturn, 1) := o172 hcX1_isLet rfl
theorem dX1_isLet_141 : decode cX1_isLet 141 = .ok (.aload_n 0, 1) := o42 hcX1_isLet rfl
theorem dX1_isLet_142 : decode cX1_isLet 142 = .ok (.getfield 18, 3) := o180 hcX1_isLet rfl
theorem dX1_isLet_145 : decode cX1_isLet 145 = .ok (.getfield 118, 3) := o180 hcX1_isLet rfl
theorem dX1_isLet_148 : decode cX1_isLet 148 = .ok (.iload_n 1, 1) := o27 hcX1_isLet rfl
theorem dX1_isLet_149 : decode cX1_isLet 149 = .ok (.iaload, 1) := o46 hcX1_isLet rfl
theorem dX1_isLet_150 : decode cX1_isLet 150 = .ok (.aload_n 0, 1) := o42 hcX1_isLet rfl
theorem dX1_isLet_151 : decode cX1_isLet 151 = .ok (.getfield 51, 3) := o180 hcX1_isLet rfl
theorem dX1_isLet_154 : decode cX1_isLet 154 = .ok (.iconst 4, 1) := o7 hcX1_isLet rfl
theorem dX1_isLet_155 : decode cX1_isLet 155 = .ok (.irem, 1) := o112 hcX1_isLet rfl
theorem dX1_isLet_156 : decode cX1_isLet 156 = .ok (.invokestatic 78, 3) := o184 hcX1_isLet rfl
theorem dX1_isLet_159 : decode cX1_isLet 159 = .ok (.iconst 1, 1) := o4 hcX1_isLet rfl
theorem dX1_isLet_160 : decode cX1_isLet 160 = .ok (.if_icmp .ne 15, 3) := o160 hcX1_isLet (a := 15) rfl rfl
theorem dX1_isLet_163 : decode cX1_isLet 163 = .ok (.aload_n 0, 1) := o42 hcX1_isLet rfl
theorem dX1_isLet_164 : decode cX1_isLet 164 = .ok (.iload_n 2, 1) := o28 hcX1_isLet rfl
theorem dX1_isLet_165 : decode cX1_isLet 165 = .ok (.invokevirtual 115, 3) := o182 hcX1_isLet rfl
theorem dX1_isLet_168 : decode cX1_isLet 168 = .ok (.ifCond .eq 7, 3) := o153 hcX1_isLet (a := 7) rfl rfl
theorem dX1_isLet_171 : decode cX1_isLet 171 = .ok (.iconst 1, 1) := o4 hcX1_isLet rfl
theorem dX1_isLet_172 : decode cX1_isLet 172 = .ok (.goto 4, 3) := o167 hcX1_isLet (a := 4) rfl rfl
theorem dX1_isLet_175 : decode cX1_isLet 175 = .ok (.iconst 0, 1) := o3 hcX1_isLet rfl
theorem dX1_isLet_176 : decode cX1_isLet 176 = .ok (.ireturn, 1) := o172 hcX1_isLet rfl
theorem dX1_isLet_177 : decode cX1_isLet 177 = .ok (.iconst 0, 1) := o3 hcX1_isLet rfl
theorem dX1_isLet_178 : decode cX1_isLet 178 = .ok (.ireturn, 1) := o172 hcX1_isLet rfl
theorem dX1_isLate_0 : decode cX1_isLate 0 = .ok (.aload_n 0, 1) := o42 hcX1_isLate rfl
theorem dX1_isLate_1 : decode cX1_isLate 1 = .ok (.getfield 51, 3) := o180 hcX1_isLate rfl
theorem dX1_isLate_4 : decode cX1_isLate 4 = .ok (.iconst 5, 1) := o8 hcX1_isLate rfl
theorem dX1_isLate_5 : decode cX1_isLate 5 = .ok (.iload_n 1, 1) := o27 hcX1_isLate rfl
theorem dX1_isLate_6 : decode cX1_isLate 6 = .ok (.imul, 1) := o104 hcX1_isLate rfl
theorem dX1_isLate_7 : decode cX1_isLate 7 = .ok (.if_icmp .lt 7, 3) := o161 hcX1_isLate (a := 7) rfl rfl
theorem dX1_isLate_10 : decode cX1_isLate 10 = .ok (.iconst 1, 1) := o4 hcX1_isLate rfl
theorem dX1_isLate_11 : decode cX1_isLate 11 = .ok (.goto 4, 3) := o167 hcX1_isLate (a := 4) rfl rfl
theorem dX1_isLate_14 : decode cX1_isLate 14 = .ok (.iconst 0, 1) := o3 hcX1_isLate rfl
theorem dX1_isLate_15 : decode cX1_isLate 15 = .ok (.ireturn, 1) := o172 hcX1_isLate rfl
theorem dX1_isKnown_0 : decode cX1_isKnown 0 = .ok (.aload_n 0, 1) := o42 hcX1_isKnown rfl
theorem dX1_isKnown_1 : decode cX1_isKnown 1 = .ok (.getfield 66, 3) := o180 hcX1_isKnown rfl
theorem dX1_isKnown_4 : decode cX1_isKnown 4 = .ok (.iload_n 1, 1) := o27 hcX1_isKnown rfl
theorem dX1_isKnown_5 : decode cX1_isKnown 5 = .ok (.iconst 0, 1) := o3 hcX1_isKnown rfl
theorem dX1_isKnown_6 : decode cX1_isKnown 6 = .ok (.invokestatic 81, 3) := o184 hcX1_isKnown rfl
theorem dX1_isKnown_9 : decode cX1_isKnown 9 = .ok (.invokestatic 121, 3) := o184 hcX1_isKnown rfl
theorem dX1_isKnown_12 : decode cX1_isKnown 12 = .ok (.iload_n 2, 1) := o28 hcX1_isKnown rfl
theorem dX1_isKnown_13 : decode cX1_isKnown 13 = .ok (.iconst 3, 1) := o6 hcX1_isKnown rfl
theorem dX1_isKnown_14 : decode cX1_isKnown 14 = .ok (.irem, 1) := o112 hcX1_isKnown rfl
theorem dX1_isKnown_15 : decode cX1_isKnown 15 = .ok (.if_icmp .lt 7, 3) := o161 hcX1_isKnown (a := 7) rfl rfl
theorem dX1_isKnown_18 : decode cX1_isKnown 18 = .ok (.iconst 1, 1) := o4 hcX1_isKnown rfl
theorem dX1_isKnown_19 : decode cX1_isKnown 19 = .ok (.goto 4, 3) := o167 hcX1_isKnown (a := 4) rfl rfl
theorem dX1_isKnown_22 : decode cX1_isKnown 22 = .ok (.iconst 0, 1) := o3 hcX1_isKnown rfl
theorem dX1_isKnown_23 : decode cX1_isKnown 23 = .ok (.ireturn, 1) := o172 hcX1_isKnown rfl
theorem dX1_pays_0 : decode cX1_pays 0 = .ok (.aload_n 0, 1) := o42 hcX1_pays rfl
theorem dX1_pays_1 : decode cX1_pays 1 = .ok (.getfield 63, 3) := o180 hcX1_pays rfl
theorem dX1_pays_4 : decode cX1_pays 4 = .ok (.iload_n 1, 1) := o27 hcX1_pays rfl
theorem dX1_pays_5 : decode cX1_pays 5 = .ok (.if_icmp .lt 7, 3) := o161 hcX1_pays (a := 7) rfl rfl
theorem dX1_pays_8 : decode cX1_pays 8 = .ok (.iconst 1, 1) := o4 hcX1_pays rfl
theorem dX1_pays_9 : decode cX1_pays 9 = .ok (.goto 4, 3) := o167 hcX1_pays (a := 4) rfl rfl
theorem dX1_pays_12 : decode cX1_pays 12 = .ok (.iconst 0, 1) := o3 hcX1_pays rfl
theorem dX1_pays_13 : decode cX1_pays 13 = .ok (.istore_n 2, 1) := o61 hcX1_pays rfl
theorem dX1_pays_14 : decode cX1_pays 14 = .ok (.iload_n 2, 1) := o28 hcX1_pays rfl
theorem dX1_pays_15 : decode cX1_pays 15 = .ok (.ifCond .eq 13, 3) := o153 hcX1_pays (a := 13) rfl rfl
theorem dX1_pays_18 : decode cX1_pays 18 = .ok (.aload_n 0, 1) := o42 hcX1_pays rfl
theorem dX1_pays_19 : decode cX1_pays 19 = .ok (.dup, 1) := o89 hcX1_pays rfl
theorem dX1_pays_20 : decode cX1_pays 20 = .ok (.getfield 63, 3) := o180 hcX1_pays rfl
theorem dX1_pays_23 : decode cX1_pays 23 = .ok (.iload_n 1, 1) := o27 hcX1_pays rfl
theorem dX1_pays_24 : decode cX1_pays 24 = .ok (.isub, 1) := o100 hcX1_pays rfl
theorem dX1_pays_25 : decode cX1_pays 25 = .ok (.putfield 63, 3) := o181 hcX1_pays rfl
theorem dX1_pays_28 : decode cX1_pays 28 = .ok (.iload_n 2, 1) := o28 hcX1_pays rfl
theorem dX1_pays_29 : decode cX1_pays 29 = .ok (.ireturn, 1) := o172 hcX1_pays rfl
theorem dX2_init_0 : decode cX2_init 0 = .ok (.aload_n 0, 1) := o42 hcX2_init rfl
theorem dX2_init_1 : decode cX2_init 1 = .ok (.invokespecial 3, 3) := o183 hcX2_init rfl
theorem dX2_init_4 : decode cX2_init 4 = .ok (.aload_n 0, 1) := o42 hcX2_init rfl
theorem dX2_init_5 : decode cX2_init 5 = .ok (.new 9, 3) := o187 hcX2_init rfl
theorem dX2_init_8 : decode cX2_init 8 = .ok (.dup, 1) := o89 hcX2_init rfl
theorem dX2_init_9 : decode cX2_init 9 = .ok (.invokespecial 11, 3) := o183 hcX2_init rfl
theorem dX2_init_12 : decode cX2_init 12 = .ok (.putfield 12, 3) := o181 hcX2_init rfl
theorem dX2_init_15 : decode cX2_init 15 = .ok (.aload_n 0, 1) := o42 hcX2_init rfl
theorem dX2_init_16 : decode cX2_init 16 = .ok (.aload_n 1, 1) := o43 hcX2_init rfl
theorem dX2_init_17 : decode cX2_init 17 = .ok (.putfield 18, 3) := o181 hcX2_init rfl
theorem dX2_init_20 : decode cX2_init 20 = .ok (.aload_n 0, 1) := o42 hcX2_init rfl
theorem dX2_init_21 : decode cX2_init 21 = .ok (.aload_n 2, 1) := o44 hcX2_init rfl
theorem dX2_init_22 : decode cX2_init 22 = .ok (.putfield 22, 3) := o181 hcX2_init rfl
theorem dX2_init_25 : decode cX2_init 25 = .ok (.aload_n 0, 1) := o42 hcX2_init rfl
theorem dX2_init_26 : decode cX2_init 26 = .ok (.new 26, 3) := o187 hcX2_init rfl
theorem dX2_init_29 : decode cX2_init 29 = .ok (.dup, 1) := o89 hcX2_init rfl
theorem dX2_init_30 : decode cX2_init 30 = .ok (.aload_n 1, 1) := o43 hcX2_init rfl
theorem dX2_init_31 : decode cX2_init 31 = .ok (.aload_n 2, 1) := o44 hcX2_init rfl
theorem dX2_init_32 : decode cX2_init 32 = .ok (.invokespecial 28, 3) := o183 hcX2_init rfl
theorem dX2_init_35 : decode cX2_init 35 = .ok (.putfield 31, 3) := o181 hcX2_init rfl
theorem dX2_init_38 : decode cX2_init 38 = .ok (.return_, 1) := o177 hcX2_init rfl
theorem dX2_comesIn_0 : decode cX2_comesIn 0 = .ok (.aload_n 0, 1) := o42 hcX2_comesIn rfl
theorem dX2_comesIn_1 : decode cX2_comesIn 1 = .ok (.getfield 31, 3) := o180 hcX2_comesIn rfl
theorem dX2_comesIn_4 : decode cX2_comesIn 4 = .ok (.iload_n 1, 1) := o27 hcX2_comesIn rfl
theorem dX2_comesIn_5 : decode cX2_comesIn 5 = .ok (.iload_n 2, 1) := o28 hcX2_comesIn rfl
theorem dX2_comesIn_6 : decode cX2_comesIn 6 = .ok (.iload_n 3, 1) := o29 hcX2_comesIn rfl
theorem dX2_comesIn_7 : decode cX2_comesIn 7 = .ok (.invokevirtual 35, 3) := o182 hcX2_comesIn rfl
theorem dX2_comesIn_10 : decode cX2_comesIn 10 = .ok (.aload_n 0, 1) := o42 hcX2_comesIn rfl
theorem dX2_comesIn_11 : decode cX2_comesIn 11 = .ok (.getfield 31, 3) := o180 hcX2_comesIn rfl
theorem dX2_comesIn_14 : decode cX2_comesIn 14 = .ok (.iload_n 1, 1) := o27 hcX2_comesIn rfl
theorem dX2_comesIn_15 : decode cX2_comesIn 15 = .ok (.iconst 0, 1) := o3 hcX2_comesIn rfl
theorem dX2_comesIn_16 : decode cX2_comesIn 16 = .ok (.invokevirtual 39, 3) := o182 hcX2_comesIn rfl
theorem dX2_comesIn_19 : decode cX2_comesIn 19 = .ok (.aload_n 0, 1) := o42 hcX2_comesIn rfl
theorem dX2_comesIn_20 : decode cX2_comesIn 20 = .ok (.getfield 31, 3) := o180 hcX2_comesIn rfl
theorem dX2_comesIn_23 : decode cX2_comesIn 23 = .ok (.iload_n 2, 1) := o28 hcX2_comesIn rfl
theorem dX2_comesIn_24 : decode cX2_comesIn 24 = .ok (.invokevirtual 43, 3) := o182 hcX2_comesIn rfl
theorem dX2_comesIn_27 : decode cX2_comesIn 27 = .ok (.ireturn, 1) := o172 hcX2_comesIn rfl
theorem dX2_followPlan_0 : decode cX2_followPlan 0 = .ok (.bipush (-5), 2) := o16 hcX2_followPlan (a := 251) rfl rfl
theorem dX2_followPlan_2 : decode cX2_followPlan 2 = .ok (.istore_n 2, 1) := o61 hcX2_followPlan rfl
theorem dX2_followPlan_3 : decode cX2_followPlan 3 = .ok (.aload_n 0, 1) := o42 hcX2_followPlan rfl
theorem dX2_followPlan_4 : decode cX2_followPlan 4 = .ok (.getfield 31, 3) := o180 hcX2_followPlan rfl
theorem dX2_followPlan_7 : decode cX2_followPlan 7 = .ok (.iload_n 1, 1) := o27 hcX2_followPlan rfl
theorem dX2_followPlan_8 : decode cX2_followPlan 8 = .ok (.iconst 0, 1) := o3 hcX2_followPlan rfl
theorem dX2_followPlan_9 : decode cX2_followPlan 9 = .ok (.invokevirtual 39, 3) := o182 hcX2_followPlan rfl
theorem dX2_followPlan_12 : decode cX2_followPlan 12 = .ok (.iconst 0, 1) := o3 hcX2_followPlan rfl
theorem dX2_followPlan_13 : decode cX2_followPlan 13 = .ok (.istore_n 3, 1) := o62 hcX2_followPlan rfl
theorem dX2_followPlan_14 : decode cX2_followPlan 14 = .ok (.iload_n 3, 1) := o29 hcX2_followPlan rfl
theorem dX2_followPlan_15 : decode cX2_followPlan 15 = .ok (.aload_n 0, 1) := o42 hcX2_followPlan rfl
theorem dX2_followPlan_16 : decode cX2_followPlan 16 = .ok (.getfield 18, 3) := o180 hcX2_followPlan rfl
theorem dX2_followPlan_19 : decode cX2_followPlan 19 = .ok (.getfield 47, 3) := o180 hcX2_followPlan rfl
theorem dX2_followPlan_22 : decode cX2_followPlan 22 = .ok (.getfield 53, 3) := o180 hcX2_followPlan rfl
theorem dX2_followPlan_25 : decode cX2_followPlan 25 = .ok (.if_icmp .ge 63, 3) := o162 hcX2_followPlan (a := 63) rfl rfl
theorem dX2_followPlan_28 : decode cX2_followPlan 28 = .ok (.aload_n 0, 1) := o42 hcX2_followPlan rfl
theorem dX2_followPlan_29 : decode cX2_followPlan 29 = .ok (.getfield 18, 3) := o180 hcX2_followPlan rfl
theorem dX2_followPlan_32 : decode cX2_followPlan 32 = .ok (.getfield 47, 3) := o180 hcX2_followPlan rfl
theorem dX2_followPlan_35 : decode cX2_followPlan 35 = .ok (.getfield 59, 3) := o180 hcX2_followPlan rfl
theorem dX2_followPlan_38 : decode cX2_followPlan 38 = .ok (.iload_n 3, 1) := o29 hcX2_followPlan rfl
theorem dX2_followPlan_39 : decode cX2_followPlan 39 = .ok (.iaload, 1) := o46 hcX2_followPlan rfl
theorem dX2_followPlan_40 : decode cX2_followPlan 40 = .ok (.istore 4, 2) := o54 hcX2_followPlan rfl
theorem dX2_followPlan_42 : decode cX2_followPlan 42 = .ok (.aload_n 0, 1) := o42 hcX2_followPlan rfl
theorem dX2_followPlan_43 : decode cX2_followPlan 43 = .ok (.getfield 31, 3) := o180 hcX2_followPlan rfl
theorem dX2_followPlan_46 : decode cX2_followPlan 46 = .ok (.iload_n 1, 1) := o27 hcX2_followPlan rfl
theorem dX2_followPlan_47 : decode cX2_followPlan 47 = .ok (.iload 4, 2) := o21 hcX2_followPlan rfl
theorem dX2_followPlan_49 : decode cX2_followPlan 49 = .ok (.aload_n 0, 1) := o42 hcX2_followPlan rfl
theorem dX2_followPlan_50 : decode cX2_followPlan 50 = .ok (.getfield 18, 3) := o180 hcX2_followPlan rfl
theorem dX2_followPlan_53 : decode cX2_followPlan 53 = .ok (.getfield 63, 3) := o180 hcX2_followPlan rfl
theorem dX2_followPlan_56 : decode cX2_followPlan 56 = .ok (.iload 4, 2) := o21 hcX2_followPlan rfl
theorem dX2_followPlan_58 : decode cX2_followPlan 58 = .ok (.iaload, 1) := o46 hcX2_followPlan rfl
theorem dX2_followPlan_59 : decode cX2_followPlan 59 = .ok (.invokevirtual 35, 3) := o182 hcX2_followPlan rfl
theorem dX2_followPlan_62 : decode cX2_followPlan 62 = .ok (.aload_n 0, 1) := o42 hcX2_followPlan rfl
theorem dX2_followPlan_63 : decode cX2_followPlan 63 = .ok (.getfield 31, 3) := o180 hcX2_followPlan rfl
theorem dX2_followPlan_66 : decode cX2_followPlan 66 = .ok (.iload 4, 2) := o21 hcX2_followPlan rfl
theorem dX2_followPlan_68 : decode cX2_followPlan 68 = .ok (.invokevirtual 43, 3) := o182 hcX2_followPlan rfl
theorem dX2_followPlan_71 : decode cX2_followPlan 71 = .ok (.ifCond .ne 11, 3) := o154 hcX2_followPlan (a := 11) rfl rfl
theorem dX2_followPlan_74 : decode cX2_followPlan 74 = .ok (.iload_n 2, 1) := o28 hcX2_followPlan rfl
theorem dX2_followPlan_75 : decode cX2_followPlan 75 = .ok (.bipush (-5), 2) := o16 hcX2_followPlan (a := 251) rfl rfl
theorem dX2_followPlan_77 : decode cX2_followPlan 77 = .ok (.if_icmp .ne 5, 3) := o160 hcX2_followPlan (a := 5) rfl rfl
theorem dX2_followPlan_80 : decode cX2_followPlan 80 = .ok (.iload_n 3, 1) := o29 hcX2_followPlan rfl
theorem dX2_followPlan_81 : decode cX2_followPlan 81 = .ok (.istore_n 2, 1) := o61 hcX2_followPlan rfl
theorem dX2_followPlan_82 : decode cX2_followPlan 82 = .ok (.iinc 3 1, 3) := o132 hcX2_followPlan (b := 1) rfl rfl
theorem dX2_followPlan_85 : decode cX2_followPlan 85 = .ok (.goto (-71), 3) := o167 hcX2_followPlan (a := 65465) rfl rfl
theorem dX2_followPlan_88 : decode cX2_followPlan 88 = .ok (.iload_n 2, 1) := o28 hcX2_followPlan rfl
theorem dX2_followPlan_89 : decode cX2_followPlan 89 = .ok (.ireturn, 1) := o172 hcX2_followPlan rfl
theorem dX2_bestRound_0 : decode cX2_bestRound 0 = .ok (.aload_n 0, 1) := o42 hcX2_bestRound rfl
theorem dX2_bestRound_1 : decode cX2_bestRound 1 = .ok (.getfield 12, 3) := o180 hcX2_bestRound rfl
theorem dX2_bestRound_4 : decode cX2_bestRound 4 = .ok (.iload_n 2, 1) := o28 hcX2_bestRound rfl
theorem dX2_bestRound_5 : decode cX2_bestRound 5 = .ok (.invokevirtual 66, 3) := o182 hcX2_bestRound rfl
theorem dX2_bestRound_8 : decode cX2_bestRound 8 = .ok (.iconst 0, 1) := o3 hcX2_bestRound rfl
theorem dX2_bestRound_9 : decode cX2_bestRound 9 = .ok (.istore_n 3, 1) := o62 hcX2_bestRound rfl
theorem dX2_bestRound_10 : decode cX2_bestRound 10 = .ok (.iload_n 3, 1) := o29 hcX2_bestRound rfl
theorem dX2_bestRound_11 : decode cX2_bestRound 11 = .ok (.aload_n 0, 1) := o42 hcX2_bestRound rfl
theorem dX2_bestRound_12 : decode cX2_bestRound 12 = .ok (.getfield 12, 3) := o180 hcX2_bestRound rfl
theorem dX2_bestRound_15 : decode cX2_bestRound 15 = .ok (.getfield 70, 3) := o180 hcX2_bestRound rfl
theorem dX2_bestRound_18 : decode cX2_bestRound 18 = .ok (.if_icmp .ge 40, 3) := o162 hcX2_bestRound (a := 40) rfl rfl
theorem dX2_bestRound_21 : decode cX2_bestRound 21 = .ok (.aload_n 0, 1) := o42 hcX2_bestRound rfl
theorem dX2_bestRound_22 : decode cX2_bestRound 22 = .ok (.getfield 12, 3) := o180 hcX2_bestRound rfl
theorem dX2_bestRound_25 : decode cX2_bestRound 25 = .ok (.getfield 71, 3) := o180 hcX2_bestRound rfl
theorem dX2_bestRound_28 : decode cX2_bestRound 28 = .ok (.iload_n 3, 1) := o29 hcX2_bestRound rfl
theorem dX2_bestRound_29 : decode cX2_bestRound 29 = .ok (.iaload, 1) := o46 hcX2_bestRound rfl
theorem dX2_bestRound_30 : decode cX2_bestRound 30 = .ok (.istore 4, 2) := o54 hcX2_bestRound rfl
theorem dX2_bestRound_32 : decode cX2_bestRound 32 = .ok (.aload_n 0, 1) := o42 hcX2_bestRound rfl
theorem dX2_bestRound_33 : decode cX2_bestRound 33 = .ok (.getfield 31, 3) := o180 hcX2_bestRound rfl
theorem dX2_bestRound_36 : decode cX2_bestRound 36 = .ok (.iload_n 1, 1) := o27 hcX2_bestRound rfl
theorem dX2_bestRound_37 : decode cX2_bestRound 37 = .ok (.iload 4, 2) := o21 hcX2_bestRound rfl
theorem dX2_bestRound_39 : decode cX2_bestRound 39 = .ok (.aload_n 0, 1) := o42 hcX2_bestRound rfl
theorem dX2_bestRound_40 : decode cX2_bestRound 40 = .ok (.getfield 18, 3) := o180 hcX2_bestRound rfl
theorem dX2_bestRound_43 : decode cX2_bestRound 43 = .ok (.getfield 63, 3) := o180 hcX2_bestRound rfl
theorem dX2_bestRound_46 : decode cX2_bestRound 46 = .ok (.iload 4, 2) := o21 hcX2_bestRound rfl
theorem dX2_bestRound_48 : decode cX2_bestRound 48 = .ok (.iaload, 1) := o46 hcX2_bestRound rfl
theorem dX2_bestRound_49 : decode cX2_bestRound 49 = .ok (.invokevirtual 35, 3) := o182 hcX2_bestRound rfl
theorem dX2_bestRound_52 : decode cX2_bestRound 52 = .ok (.iinc 3 1, 3) := o132 hcX2_bestRound (b := 1) rfl rfl
theorem dX2_bestRound_55 : decode cX2_bestRound 55 = .ok (.goto (-45), 3) := o167 hcX2_bestRound (a := 65491) rfl rfl
theorem dX2_bestRound_58 : decode cX2_bestRound 58 = .ok (.iconst 1, 1) := o4 hcX2_bestRound rfl
theorem dX2_bestRound_59 : decode cX2_bestRound 59 = .ok (.istore_n 3, 1) := o62 hcX2_bestRound rfl
theorem dX2_bestRound_60 : decode cX2_bestRound 60 = .ok (.iconst 0, 1) := o3 hcX2_bestRound rfl
theorem dX2_bestRound_61 : decode cX2_bestRound 61 = .ok (.istore 4, 2) := o54 hcX2_bestRound rfl
theorem dX2_bestRound_63 : decode cX2_bestRound 63 = .ok (.iload 4, 2) := o21 hcX2_bestRound rfl
theorem dX2_bestRound_65 : decode cX2_bestRound 65 = .ok (.bipush 120, 2) := o16 hcX2_bestRound (a := 120) rfl rfl
theorem dX2_bestRound_67 : decode cX2_bestRound 67 = .ok (.if_icmp .ge 93, 3) := o162 hcX2_bestRound (a := 93) rfl rfl
theorem dX2_bestRound_70 : decode cX2_bestRound 70 = .ok (.iload_n 3, 1) := o29 hcX2_bestRound rfl
theorem dX2_bestRound_71 : decode cX2_bestRound 71 = .ok (.ifCond .eq 89, 3) := o153 hcX2_bestRound (a := 89) rfl rfl
theorem dX2_bestRound_74 : decode cX2_bestRound 74 = .ok (.aload_n 0, 1) := o42 hcX2_bestRound rfl
theorem dX2_bestRound_75 : decode cX2_bestRound 75 = .ok (.getfield 31, 3) := o180 hcX2_bestRound rfl
theorem dX2_bestRound_78 : decode cX2_bestRound 78 = .ok (.iload_n 1, 1) := o27 hcX2_bestRound rfl
theorem dX2_bestRound_79 : decode cX2_bestRound 79 = .ok (.iconst 0, 1) := o3 hcX2_bestRound rfl
theorem dX2_bestRound_80 : decode cX2_bestRound 80 = .ok (.invokevirtual 39, 3) := o182 hcX2_bestRound rfl
theorem dX2_bestRound_83 : decode cX2_bestRound 83 = .ok (.iconst 0, 1) := o3 hcX2_bestRound rfl
theorem dX2_bestRound_84 : decode cX2_bestRound 84 = .ok (.istore 5, 2) := o54 hcX2_bestRound rfl
theorem dX2_bestRound_86 : decode cX2_bestRound 86 = .ok (.iload 5, 2) := o21 hcX2_bestRound rfl
theorem dX2_bestRound_88 : decode cX2_bestRound 88 = .ok (.aload_n 0, 1) := o42 hcX2_bestRound rfl
theorem dX2_bestRound_89 : decode cX2_bestRound 89 = .ok (.getfield 12, 3) := o180 hcX2_bestRound rfl
theorem dX2_bestRound_92 : decode cX2_bestRound 92 = .ok (.getfield 70, 3) := o180 hcX2_bestRound rfl
theorem dX2_bestRound_95 : decode cX2_bestRound 95 = .ok (.if_icmp .ge 27, 3) := o162 hcX2_bestRound (a := 27) rfl rfl
theorem dX2_bestRound_98 : decode cX2_bestRound 98 = .ok (.aload_n 0, 1) := o42 hcX2_bestRound rfl
theorem dX2_bestRound_99 : decode cX2_bestRound 99 = .ok (.getfield 31, 3) := o180 hcX2_bestRound rfl
theorem dX2_bestRound_102 : decode cX2_bestRound 102 = .ok (.aload_n 0, 1) := o42 hcX2_bestRound rfl
theorem dX2_bestRound_103 : decode cX2_bestRound 103 = .ok (.getfield 12, 3) := o180 hcX2_bestRound rfl
theorem dX2_bestRound_106 : decode cX2_bestRound 106 = .ok (.getfield 71, 3) := o180 hcX2_bestRound rfl
theorem dX2_bestRound_109 : decode cX2_bestRound 109 = .ok (.iload 5, 2) := o21 hcX2_bestRound rfl
theorem dX2_bestRound_111 : decode cX2_bestRound 111 = .ok (.iaload, 1) := o46 hcX2_bestRound rfl
theorem dX2_bestRound_112 : decode cX2_bestRound 112 = .ok (.invokevirtual 43, 3) := o182 hcX2_bestRound rfl
theorem dX2_bestRound_115 : decode cX2_bestRound 115 = .ok (.pop, 1) := o87 hcX2_bestRound rfl
theorem dX2_bestRound_116 : decode cX2_bestRound 116 = .ok (.iinc 5 1, 3) := o132 hcX2_bestRound (b := 1) rfl rfl
theorem dX2_bestRound_119 : decode cX2_bestRound 119 = .ok (.goto (-33), 3) := o167 hcX2_bestRound (a := 65503) rfl rfl
theorem dX2_bestRound_122 : decode cX2_bestRound 122 = .ok (.aload_n 0, 1) := o42 hcX2_bestRound rfl
theorem dX2_bestRound_123 : decode cX2_bestRound 123 = .ok (.getfield 12, 3) := o180 hcX2_bestRound rfl
theorem dX2_bestRound_126 : decode cX2_bestRound 126 = .ok (.aload_n 0, 1) := o42 hcX2_bestRound rfl
theorem dX2_bestRound_127 : decode cX2_bestRound 127 = .ok (.getfield 31, 3) := o180 hcX2_bestRound rfl
theorem dX2_bestRound_130 : decode cX2_bestRound 130 = .ok (.getfield 74, 3) := o180 hcX2_bestRound rfl
theorem dX2_bestRound_133 : decode cX2_bestRound 133 = .ok (.invokestatic 77, 3) := o184 hcX2_bestRound rfl
theorem dX2_bestRound_136 : decode cX2_bestRound 136 = .ok (.aload_n 0, 1) := o42 hcX2_bestRound rfl
theorem dX2_bestRound_137 : decode cX2_bestRound 137 = .ok (.getfield 31, 3) := o180 hcX2_bestRound rfl
theorem dX2_bestRound_140 : decode cX2_bestRound 140 = .ok (.getfield 83, 3) := o180 hcX2_bestRound rfl
theorem dX2_bestRound_143 : decode cX2_bestRound 143 = .ok (.invokevirtual 86, 3) := o182 hcX2_bestRound rfl
theorem dX2_bestRound_146 : decode cX2_bestRound 146 = .ok (.aload_n 0, 1) := o42 hcX2_bestRound rfl
theorem dX2_bestRound_147 : decode cX2_bestRound 147 = .ok (.getfield 12, 3) := o180 hcX2_bestRound rfl
theorem dX2_bestRound_150 : decode cX2_bestRound 150 = .ok (.invokevirtual 89, 3) := o182 hcX2_bestRound rfl
theorem dX2_bestRound_153 : decode cX2_bestRound 153 = .ok (.istore_n 3, 1) := o62 hcX2_bestRound rfl
theorem dX2_bestRound_154 : decode cX2_bestRound 154 = .ok (.iinc 4 1, 3) := o132 hcX2_bestRound (b := 1) rfl rfl
theorem dX2_bestRound_157 : decode cX2_bestRound 157 = .ok (.goto (-94), 3) := o167 hcX2_bestRound (a := 65442) rfl rfl
theorem dX2_bestRound_160 : decode cX2_bestRound 160 = .ok (.aload_n 0, 1) := o42 hcX2_bestRound rfl
theorem dX2_bestRound_161 : decode cX2_bestRound 161 = .ok (.getfield 12, 3) := o180 hcX2_bestRound rfl
theorem dX2_bestRound_164 : decode cX2_bestRound 164 = .ok (.areturn, 1) := o176 hcX2_bestRound rfl
theorem dX2_leastGrain_0 : decode cX2_leastGrain 0 = .ok (.iconst 0, 1) := o3 hcX2_leastGrain rfl
theorem dX2_leastGrain_1 : decode cX2_leastGrain 1 = .ok (.istore_n 3, 1) := o62 hcX2_leastGrain rfl
theorem dX2_leastGrain_2 : decode cX2_leastGrain 2 = .ok (.iload_n 3, 1) := o29 hcX2_leastGrain rfl
theorem dX2_leastGrain_3 : decode cX2_leastGrain 3 = .ok (.bipush 99, 2) := o16 hcX2_leastGrain (a := 99) rfl rfl
theorem dX2_leastGrain_5 : decode cX2_leastGrain 5 = .ok (.if_icmp .gt 21, 3) := o163 hcX2_leastGrain (a := 21) rfl rfl
theorem dX2_leastGrain_8 : decode cX2_leastGrain 8 = .ok (.aload_n 0, 1) := o42 hcX2_leastGrain rfl
theorem dX2_leastGrain_9 : decode cX2_leastGrain 9 = .ok (.iload_n 1, 1) := o27 hcX2_leastGrain rfl
theorem dX2_leastGrain_10 : decode cX2_leastGrain 10 = .ok (.iload_n 2, 1) := o28 hcX2_leastGrain rfl
theorem dX2_leastGrain_11 : decode cX2_leastGrain 11 = .ok (.iload_n 3, 1) := o29 hcX2_leastGrain rfl
theorem dX2_leastGrain_12 : decode cX2_leastGrain 12 = .ok (.invokevirtual 93, 3) := o182 hcX2_leastGrain rfl
theorem dX2_leastGrain_15 : decode cX2_leastGrain 15 = .ok (.ifCond .ne 5, 3) := o154 hcX2_leastGrain (a := 5) rfl rfl
theorem dX2_leastGrain_18 : decode cX2_leastGrain 18 = .ok (.iload_n 3, 1) := o29 hcX2_leastGrain rfl
theorem dX2_leastGrain_19 : decode cX2_leastGrain 19 = .ok (.ireturn, 1) := o172 hcX2_leastGrain rfl
theorem dX2_leastGrain_20 : decode cX2_leastGrain 20 = .ok (.iinc 3 1, 3) := o132 hcX2_leastGrain (b := 1) rfl rfl
theorem dX2_leastGrain_23 : decode cX2_leastGrain 23 = .ok (.goto (-21), 3) := o167 hcX2_leastGrain (a := 65515) rfl rfl
theorem dX2_leastGrain_26 : decode cX2_leastGrain 26 = .ok (.bipush (-5), 2) := o16 hcX2_leastGrain (a := 251) rfl rfl
theorem dX2_leastGrain_28 : decode cX2_leastGrain 28 = .ok (.ireturn, 1) := o172 hcX2_leastGrain rfl
theorem dX2_houseToStrew_0 : decode cX2_houseToStrew 0 = .ok (.bipush (-5), 2) := o16 hcX2_houseToStrew (a := 251) rfl rfl
theorem dX2_houseToStrew_2 : decode cX2_houseToStrew 2 = .ok (.istore_n 2, 1) := o61 hcX2_houseToStrew rfl
theorem dX2_houseToStrew_3 : decode cX2_houseToStrew 3 = .ok (.iconst (-1), 1) := o2 hcX2_houseToStrew rfl
theorem dX2_houseToStrew_4 : decode cX2_houseToStrew 4 = .ok (.istore_n 3, 1) := o62 hcX2_houseToStrew rfl
theorem dX2_houseToStrew_5 : decode cX2_houseToStrew 5 = .ok (.iconst 0, 1) := o3 hcX2_houseToStrew rfl
theorem dX2_houseToStrew_6 : decode cX2_houseToStrew 6 = .ok (.istore 4, 2) := o54 hcX2_houseToStrew rfl
theorem dX2_houseToStrew_8 : decode cX2_houseToStrew 8 = .ok (.iload 4, 2) := o21 hcX2_houseToStrew rfl
theorem dX2_houseToStrew_10 : decode cX2_houseToStrew 10 = .ok (.aload_n 0, 1) := o42 hcX2_houseToStrew rfl
theorem dX2_houseToStrew_11 : decode cX2_houseToStrew 11 = .ok (.getfield 18, 3) := o180 hcX2_houseToStrew rfl
theorem dX2_houseToStrew_14 : decode cX2_houseToStrew 14 = .ok (.getfield 97, 3) := o180 hcX2_houseToStrew rfl
theorem dX2_houseToStrew_17 : decode cX2_houseToStrew 17 = .ok (.if_icmp .ge 44, 3) := o162 hcX2_houseToStrew (a := 44) rfl rfl
theorem dX2_houseToStrew_20 : decode cX2_houseToStrew 20 = .ok (.aload_n 0, 1) := o42 hcX2_houseToStrew rfl
theorem dX2_houseToStrew_21 : decode cX2_houseToStrew 21 = .ok (.iload 4, 2) := o21 hcX2_houseToStrew rfl
theorem dX2_houseToStrew_23 : decode cX2_houseToStrew 23 = .ok (.iconst 0, 1) := o3 hcX2_houseToStrew rfl
theorem dX2_houseToStrew_24 : decode cX2_houseToStrew 24 = .ok (.invokevirtual 100, 3) := o182 hcX2_houseToStrew rfl
theorem dX2_houseToStrew_27 : decode cX2_houseToStrew 27 = .ok (.aload_n 0, 1) := o42 hcX2_houseToStrew rfl
theorem dX2_houseToStrew_28 : decode cX2_houseToStrew 28 = .ok (.iload 4, 2) := o21 hcX2_houseToStrew rfl
theorem dX2_houseToStrew_30 : decode cX2_houseToStrew 30 = .ok (.iload_n 1, 1) := o27 hcX2_houseToStrew rfl
theorem dX2_houseToStrew_31 : decode cX2_houseToStrew 31 = .ok (.invokevirtual 100, 3) := o182 hcX2_houseToStrew rfl
theorem dX2_houseToStrew_34 : decode cX2_houseToStrew 34 = .ok (.isub, 1) := o100 hcX2_houseToStrew rfl
theorem dX2_houseToStrew_35 : decode cX2_houseToStrew 35 = .ok (.istore 5, 2) := o54 hcX2_houseToStrew rfl
theorem dX2_houseToStrew_37 : decode cX2_houseToStrew 37 = .ok (.iload_n 2, 1) := o28 hcX2_houseToStrew rfl
theorem dX2_houseToStrew_38 : decode cX2_houseToStrew 38 = .ok (.bipush (-5), 2) := o16 hcX2_houseToStrew (a := 251) rfl rfl
theorem dX2_houseToStrew_40 : decode cX2_houseToStrew 40 = .ok (.if_icmp .eq 9, 3) := o159 hcX2_houseToStrew (a := 9) rfl rfl
theorem dX2_houseToStrew_43 : decode cX2_houseToStrew 43 = .ok (.iload 5, 2) := o21 hcX2_houseToStrew rfl
theorem dX2_houseToStrew_45 : decode cX2_houseToStrew 45 = .ok (.iload_n 3, 1) := o29 hcX2_houseToStrew rfl
theorem dX2_houseToStrew_46 : decode cX2_houseToStrew 46 = .ok (.if_icmp .le 9, 3) := o164 hcX2_houseToStrew (a := 9) rfl rfl
theorem dX2_houseToStrew_49 : decode cX2_houseToStrew 49 = .ok (.iload 4, 2) := o21 hcX2_houseToStrew rfl
theorem dX2_houseToStrew_51 : decode cX2_houseToStrew 51 = .ok (.istore_n 2, 1) := o61 hcX2_houseToStrew rfl
theorem dX2_houseToStrew_52 : decode cX2_houseToStrew 52 = .ok (.iload 5, 2) := o21 hcX2_houseToStrew rfl
theorem dX2_houseToStrew_54 : decode cX2_houseToStrew 54 = .ok (.istore_n 3, 1) := o62 hcX2_houseToStrew rfl
theorem dX2_houseToStrew_55 : decode cX2_houseToStrew 55 = .ok (.iinc 4 1, 3) := o132 hcX2_houseToStrew (b := 1) rfl rfl
theorem dX2_houseToStrew_58 : decode cX2_houseToStrew 58 = .ok (.goto (-50), 3) := o167 hcX2_houseToStrew (a := 65486) rfl rfl
theorem dX2_houseToStrew_61 : decode cX2_houseToStrew 61 = .ok (.iload_n 2, 1) := o28 hcX2_houseToStrew rfl
theorem dX2_houseToStrew_62 : decode cX2_houseToStrew 62 = .ok (.ireturn, 1) := o172 hcX2_houseToStrew rfl
theorem dX2_pairsAfter_0 : decode cX2_pairsAfter 0 = .ok (.iconst 0, 1) := o3 hcX2_pairsAfter rfl
theorem dX2_pairsAfter_1 : decode cX2_pairsAfter 1 = .ok (.istore_n 3, 1) := o62 hcX2_pairsAfter rfl
theorem dX2_pairsAfter_2 : decode cX2_pairsAfter 2 = .ok (.iconst 0, 1) := o3 hcX2_pairsAfter rfl
theorem dX2_pairsAfter_3 : decode cX2_pairsAfter 3 = .ok (.istore 4, 2) := o54 hcX2_pairsAfter rfl
theorem dX2_pairsAfter_5 : decode cX2_pairsAfter 5 = .ok (.iload 4, 2) := o21 hcX2_pairsAfter rfl
theorem dX2_pairsAfter_7 : decode cX2_pairsAfter 7 = .ok (.aload_n 0, 1) := o42 hcX2_pairsAfter rfl
theorem dX2_pairsAfter_8 : decode cX2_pairsAfter 8 = .ok (.getfield 18, 3) := o180 hcX2_pairsAfter rfl
theorem dX2_pairsAfter_11 : decode cX2_pairsAfter 11 = .ok (.getfield 97, 3) := o180 hcX2_pairsAfter rfl
theorem dX2_pairsAfter_14 : decode cX2_pairsAfter 14 = .ok (.if_icmp .ge 29, 3) := o162 hcX2_pairsAfter (a := 29) rfl rfl
theorem dX2_pairsAfter_17 : decode cX2_pairsAfter 17 = .ok (.iload_n 3, 1) := o29 hcX2_pairsAfter rfl
theorem dX2_pairsAfter_18 : decode cX2_pairsAfter 18 = .ok (.aload_n 0, 1) := o42 hcX2_pairsAfter rfl
theorem dX2_pairsAfter_19 : decode cX2_pairsAfter 19 = .ok (.iload 4, 2) := o21 hcX2_pairsAfter rfl
theorem dX2_pairsAfter_21 : decode cX2_pairsAfter 21 = .ok (.iload 4, 2) := o21 hcX2_pairsAfter rfl
theorem dX2_pairsAfter_23 : decode cX2_pairsAfter 23 = .ok (.iload_n 1, 1) := o27 hcX2_pairsAfter rfl
theorem dX2_pairsAfter_24 : decode cX2_pairsAfter 24 = .ok (.if_icmp .ne 7, 3) := o160 hcX2_pairsAfter (a := 7) rfl rfl
theorem dX2_pairsAfter_27 : decode cX2_pairsAfter 27 = .ok (.iload_n 2, 1) := o28 hcX2_pairsAfter rfl
theorem dX2_pairsAfter_28 : decode cX2_pairsAfter 28 = .ok (.goto 4, 3) := o167 hcX2_pairsAfter (a := 4) rfl rfl
theorem dX2_pairsAfter_31 : decode cX2_pairsAfter 31 = .ok (.iconst 0, 1) := o3 hcX2_pairsAfter rfl
theorem dX2_pairsAfter_32 : decode cX2_pairsAfter 32 = .ok (.invokevirtual 100, 3) := o182 hcX2_pairsAfter rfl
theorem dX2_pairsAfter_35 : decode cX2_pairsAfter 35 = .ok (.iadd, 1) := o96 hcX2_pairsAfter rfl
theorem dX2_pairsAfter_36 : decode cX2_pairsAfter 36 = .ok (.istore_n 3, 1) := o62 hcX2_pairsAfter rfl
theorem dX2_pairsAfter_37 : decode cX2_pairsAfter 37 = .ok (.iinc 4 1, 3) := o132 hcX2_pairsAfter (b := 1) rfl rfl
theorem dX2_pairsAfter_40 : decode cX2_pairsAfter 40 = .ok (.goto (-35), 3) := o167 hcX2_pairsAfter (a := 65501) rfl rfl
theorem dX2_pairsAfter_43 : decode cX2_pairsAfter 43 = .ok (.iload_n 3, 1) := o29 hcX2_pairsAfter rfl
theorem dX2_pairsAfter_44 : decode cX2_pairsAfter 44 = .ok (.ireturn, 1) := o172 hcX2_pairsAfter rfl
theorem dX2_insAt_0 : decode cX2_insAt 0 = .ok (.iconst 0, 1) := o3 hcX2_insAt rfl
theorem dX2_insAt_1 : decode cX2_insAt 1 = .ok (.istore_n 3, 1) := o62 hcX2_insAt rfl
theorem dX2_insAt_2 : decode cX2_insAt 2 = .ok (.aload_n 0, 1) := o42 hcX2_insAt rfl
theorem dX2_insAt_3 : decode cX2_insAt 3 = .ok (.getfield 18, 3) := o180 hcX2_insAt rfl
theorem dX2_insAt_6 : decode cX2_insAt 6 = .ok (.getfield 63, 3) := o180 hcX2_insAt rfl
theorem dX2_insAt_9 : decode cX2_insAt 9 = .ok (.iload_n 1, 1) := o27 hcX2_insAt rfl
theorem dX2_insAt_10 : decode cX2_insAt 10 = .ok (.iaload, 1) := o46 hcX2_insAt rfl
theorem dX2_insAt_11 : decode cX2_insAt 11 = .ok (.iload_n 2, 1) := o28 hcX2_insAt rfl
theorem dX2_insAt_12 : decode cX2_insAt 12 = .ok (.iadd, 1) := o96 hcX2_insAt rfl
theorem dX2_insAt_13 : decode cX2_insAt 13 = .ok (.bipush 99, 2) := o16 hcX2_insAt (a := 99) rfl rfl
theorem dX2_insAt_15 : decode cX2_insAt 15 = .ok (.invokestatic 104, 3) := o184 hcX2_insAt rfl
theorem dX2_insAt_18 : decode cX2_insAt 18 = .ok (.istore 4, 2) := o54 hcX2_insAt rfl
theorem dX2_insAt_20 : decode cX2_insAt 20 = .ok (.iconst 0, 1) := o3 hcX2_insAt rfl
theorem dX2_insAt_21 : decode cX2_insAt 21 = .ok (.istore 5, 2) := o54 hcX2_insAt rfl
theorem dX2_insAt_23 : decode cX2_insAt 23 = .ok (.iload 5, 2) := o21 hcX2_insAt rfl
theorem dX2_insAt_25 : decode cX2_insAt 25 = .ok (.aload_n 0, 1) := o42 hcX2_insAt rfl
theorem dX2_insAt_26 : decode cX2_insAt 26 = .ok (.getfield 18, 3) := o180 hcX2_insAt rfl
theorem dX2_insAt_29 : decode cX2_insAt 29 = .ok (.getfield 109, 3) := o180 hcX2_insAt rfl
theorem dX2_insAt_32 : decode cX2_insAt 32 = .ok (.if_icmp .ge 24, 3) := o162 hcX2_insAt (a := 24) rfl rfl
theorem dX2_insAt_35 : decode cX2_insAt 35 = .ok (.aload_n 0, 1) := o42 hcX2_insAt rfl
theorem dX2_insAt_36 : decode cX2_insAt 36 = .ok (.iload 5, 2) := o21 hcX2_insAt rfl
theorem dX2_insAt_38 : decode cX2_insAt 38 = .ok (.iload_n 1, 1) := o27 hcX2_insAt rfl
theorem dX2_insAt_39 : decode cX2_insAt 39 = .ok (.iload 4, 2) := o21 hcX2_insAt rfl
theorem dX2_insAt_41 : decode cX2_insAt 41 = .ok (.invokevirtual 93, 3) := o182 hcX2_insAt rfl
theorem dX2_insAt_44 : decode cX2_insAt 44 = .ok (.ifCond .eq 6, 3) := o153 hcX2_insAt (a := 6) rfl rfl
theorem dX2_insAt_47 : decode cX2_insAt 47 = .ok (.iinc 3 1, 3) := o132 hcX2_insAt (b := 1) rfl rfl
theorem dX2_insAt_50 : decode cX2_insAt 50 = .ok (.iinc 5 1, 3) := o132 hcX2_insAt (b := 1) rfl rfl
theorem dX2_insAt_53 : decode cX2_insAt 53 = .ok (.goto (-30), 3) := o167 hcX2_insAt (a := 65506) rfl rfl
theorem dX2_insAt_56 : decode cX2_insAt 56 = .ok (.iload_n 3, 1) := o29 hcX2_insAt rfl
theorem dX2_insAt_57 : decode cX2_insAt 57 = .ok (.ireturn, 1) := o172 hcX2_insAt rfl
theorem dX2_doneTogether_0 : decode cX2_doneTogether 0 = .ok (.aload_n 0, 1) := o42 hcX2_doneTogether rfl
theorem dX2_doneTogether_1 : decode cX2_doneTogether 1 = .ok (.getfield 18, 3) := o180 hcX2_doneTogether rfl
theorem dX2_doneTogether_4 : decode cX2_doneTogether 4 = .ok (.getfield 63, 3) := o180 hcX2_doneTogether rfl
theorem dX2_doneTogether_7 : decode cX2_doneTogether 7 = .ok (.iload_n 3, 1) := o29 hcX2_doneTogether rfl
theorem dX2_doneTogether_8 : decode cX2_doneTogether 8 = .ok (.iaload, 1) := o46 hcX2_doneTogether rfl
theorem dX2_doneTogether_9 : decode cX2_doneTogether 9 = .ok (.istore 4, 2) := o54 hcX2_doneTogether rfl
theorem dX2_doneTogether_11 : decode cX2_doneTogether 11 = .ok (.aload_n 0, 1) := o42 hcX2_doneTogether rfl
theorem dX2_doneTogether_12 : decode cX2_doneTogether 12 = .ok (.iload_n 1, 1) := o27 hcX2_doneTogether rfl
theorem dX2_doneTogether_13 : decode cX2_doneTogether 13 = .ok (.iload_n 3, 1) := o29 hcX2_doneTogether rfl
theorem dX2_doneTogether_14 : decode cX2_doneTogether 14 = .ok (.invokevirtual 112, 3) := o182 hcX2_doneTogether rfl
theorem dX2_doneTogether_17 : decode cX2_doneTogether 17 = .ok (.aload_n 0, 1) := o42 hcX2_doneTogether rfl
theorem dX2_doneTogether_18 : decode cX2_doneTogether 18 = .ok (.iload_n 2, 1) := o28 hcX2_doneTogether rfl
theorem dX2_doneTogether_19 : decode cX2_doneTogether 19 = .ok (.iload_n 3, 1) := o29 hcX2_doneTogether rfl
theorem dX2_doneTogether_20 : decode cX2_doneTogether 20 = .ok (.invokevirtual 112, 3) := o182 hcX2_doneTogether rfl
theorem dX2_doneTogether_23 : decode cX2_doneTogether 23 = .ok (.invokestatic 115, 3) := o184 hcX2_doneTogether rfl
theorem dX2_doneTogether_26 : decode cX2_doneTogether 26 = .ok (.istore 5, 2) := o54 hcX2_doneTogether rfl
theorem dX2_doneTogether_28 : decode cX2_doneTogether 28 = .ok (.aload_n 0, 1) := o42 hcX2_doneTogether rfl
theorem dX2_doneTogether_29 : decode cX2_doneTogether 29 = .ok (.getfield 22, 3) := o180 hcX2_doneTogether rfl
theorem dX2_doneTogether_32 : decode cX2_doneTogether 32 = .ok (.aload_n 0, 1) := o42 hcX2_doneTogether rfl
theorem dX2_doneTogether_33 : decode cX2_doneTogether 33 = .ok (.getfield 18, 3) := o180 hcX2_doneTogether rfl
theorem dX2_doneTogether_36 : decode cX2_doneTogether 36 = .ok (.iload_n 1, 1) := o27 hcX2_doneTogether rfl
theorem dX2_doneTogether_37 : decode cX2_doneTogether 37 = .ok (.iload_n 3, 1) := o29 hcX2_doneTogether rfl
theorem dX2_doneTogether_38 : decode cX2_doneTogether 38 = .ok (.iload 4, 2) := o21 hcX2_doneTogether rfl
theorem dX2_doneTogether_40 : decode cX2_doneTogether 40 = .ok (.invokevirtual 118, 3) := o182 hcX2_doneTogether rfl
theorem dX2_doneTogether_43 : decode cX2_doneTogether 43 = .ok (.aload_n 0, 1) := o42 hcX2_doneTogether rfl
theorem dX2_doneTogether_44 : decode cX2_doneTogether 44 = .ok (.getfield 18, 3) := o180 hcX2_doneTogether rfl
theorem dX2_doneTogether_47 : decode cX2_doneTogether 47 = .ok (.getfield 123, 3) := o180 hcX2_doneTogether rfl
theorem dX2_doneTogether_50 : decode cX2_doneTogether 50 = .ok (.iload_n 1, 1) := o27 hcX2_doneTogether rfl
theorem dX2_doneTogether_51 : decode cX2_doneTogether 51 = .ok (.iaload, 1) := o46 hcX2_doneTogether rfl
theorem dX2_doneTogether_52 : decode cX2_doneTogether 52 = .ok (.aload_n 0, 1) := o42 hcX2_doneTogether rfl
theorem dX2_doneTogether_53 : decode cX2_doneTogether 53 = .ok (.getfield 18, 3) := o180 hcX2_doneTogether rfl
theorem dX2_doneTogether_56 : decode cX2_doneTogether 56 = .ok (.getfield 123, 3) := o180 hcX2_doneTogether rfl
theorem dX2_doneTogether_59 : decode cX2_doneTogether 59 = .ok (.iload_n 2, 1) := o28 hcX2_doneTogether rfl
theorem dX2_doneTogether_60 : decode cX2_doneTogether 60 = .ok (.iaload, 1) := o46 hcX2_doneTogether rfl
theorem dX2_doneTogether_61 : decode cX2_doneTogether 61 = .ok (.iadd, 1) := o96 hcX2_doneTogether rfl
theorem dX2_doneTogether_62 : decode cX2_doneTogether 62 = .ok (.istore 6, 2) := o54 hcX2_doneTogether rfl
theorem dX2_doneTogether_64 : decode cX2_doneTogether 64 = .ok (.iload 5, 2) := o21 hcX2_doneTogether rfl
theorem dX2_doneTogether_66 : decode cX2_doneTogether 66 = .ok (.aload_n 0, 1) := o42 hcX2_doneTogether rfl
theorem dX2_doneTogether_67 : decode cX2_doneTogether 67 = .ok (.getfield 22, 3) := o180 hcX2_doneTogether rfl
theorem dX2_doneTogether_70 : decode cX2_doneTogether 70 = .ok (.getfield 126, 3) := o180 hcX2_doneTogether rfl
theorem dX2_doneTogether_73 : decode cX2_doneTogether 73 = .ok (.iload 4, 2) := o21 hcX2_doneTogether rfl
theorem dX2_doneTogether_75 : decode cX2_doneTogether 75 = .ok (.imul, 1) := o104 hcX2_doneTogether rfl
theorem dX2_doneTogether_76 : decode cX2_doneTogether 76 = .ok (.iload 6, 2) := o21 hcX2_doneTogether rfl
theorem dX2_doneTogether_78 : decode cX2_doneTogether 78 = .ok (.invokestatic 129, 3) := o184 hcX2_doneTogether rfl
theorem dX2_doneTogether_81 : decode cX2_doneTogether 81 = .ok (.iadd, 1) := o96 hcX2_doneTogether rfl
theorem dX2_doneTogether_82 : decode cX2_doneTogether 82 = .ok (.ireturn, 1) := o172 hcX2_doneTogether rfl
theorem dX2_walk_0 : decode cX2_walk 0 = .ok (.aload_n 0, 1) := o42 hcX2_walk rfl
theorem dX2_walk_1 : decode cX2_walk 1 = .ok (.getfield 22, 3) := o180 hcX2_walk rfl
theorem dX2_walk_4 : decode cX2_walk 4 = .ok (.aload_n 0, 1) := o42 hcX2_walk rfl
theorem dX2_walk_5 : decode cX2_walk 5 = .ok (.getfield 18, 3) := o180 hcX2_walk rfl
theorem dX2_walk_8 : decode cX2_walk 8 = .ok (.iload_n 1, 1) := o27 hcX2_walk rfl
theorem dX2_walk_9 : decode cX2_walk 9 = .ok (.iload_n 2, 1) := o28 hcX2_walk rfl
theorem dX2_walk_10 : decode cX2_walk 10 = .ok (.aload_n 0, 1) := o42 hcX2_walk rfl
theorem dX2_walk_11 : decode cX2_walk 11 = .ok (.getfield 18, 3) := o180 hcX2_walk rfl
theorem dX2_walk_14 : decode cX2_walk 14 = .ok (.getfield 63, 3) := o180 hcX2_walk rfl
theorem dX2_walk_17 : decode cX2_walk 17 = .ok (.iload_n 2, 1) := o28 hcX2_walk rfl
theorem dX2_walk_18 : decode cX2_walk 18 = .ok (.iaload, 1) := o46 hcX2_walk rfl
theorem dX2_walk_19 : decode cX2_walk 19 = .ok (.invokevirtual 118, 3) := o182 hcX2_walk rfl
theorem dX2_walk_22 : decode cX2_walk 22 = .ok (.aload_n 0, 1) := o42 hcX2_walk rfl
theorem dX2_walk_23 : decode cX2_walk 23 = .ok (.getfield 22, 3) := o180 hcX2_walk rfl
theorem dX2_walk_26 : decode cX2_walk 26 = .ok (.getfield 132, 3) := o180 hcX2_walk rfl
theorem dX2_walk_29 : decode cX2_walk 29 = .ok (.iload_n 2, 1) := o28 hcX2_walk rfl
theorem dX2_walk_30 : decode cX2_walk 30 = .ok (.aload_n 0, 1) := o42 hcX2_walk rfl
theorem dX2_walk_31 : decode cX2_walk 31 = .ok (.getfield 18, 3) := o180 hcX2_walk rfl
theorem dX2_walk_34 : decode cX2_walk 34 = .ok (.getfield 135, 3) := o180 hcX2_walk rfl
theorem dX2_walk_37 : decode cX2_walk 37 = .ok (.iload_n 1, 1) := o27 hcX2_walk rfl
theorem dX2_walk_38 : decode cX2_walk 38 = .ok (.iaload, 1) := o46 hcX2_walk rfl
theorem dX2_walk_39 : decode cX2_walk 39 = .ok (.isub, 1) := o100 hcX2_walk rfl
theorem dX2_walk_40 : decode cX2_walk 40 = .ok (.invokestatic 138, 3) := o184 hcX2_walk rfl
theorem dX2_walk_43 : decode cX2_walk 43 = .ok (.imul, 1) := o104 hcX2_walk rfl
theorem dX2_walk_44 : decode cX2_walk 44 = .ok (.ireturn, 1) := o172 hcX2_walk rfl
theorem dX2_whoBits_0 : decode cX2_whoBits 0 = .ok (.iconst 0, 1) := o3 hcX2_whoBits rfl
theorem dX2_whoBits_1 : decode cX2_whoBits 1 = .ok (.istore_n 1, 1) := o60 hcX2_whoBits rfl
theorem dX2_whoBits_2 : decode cX2_whoBits 2 = .ok (.iconst 0, 1) := o3 hcX2_whoBits rfl
theorem dX2_whoBits_3 : decode cX2_whoBits 3 = .ok (.istore_n 2, 1) := o61 hcX2_whoBits rfl
theorem dX2_whoBits_4 : decode cX2_whoBits 4 = .ok (.iload_n 2, 1) := o28 hcX2_whoBits rfl
theorem dX2_whoBits_5 : decode cX2_whoBits 5 = .ok (.aload_n 0, 1) := o42 hcX2_whoBits rfl
theorem dX2_whoBits_6 : decode cX2_whoBits 6 = .ok (.getfield 18, 3) := o180 hcX2_whoBits rfl
theorem dX2_whoBits_9 : decode cX2_whoBits 9 = .ok (.getfield 109, 3) := o180 hcX2_whoBits rfl
theorem dX2_whoBits_12 : decode cX2_whoBits 12 = .ok (.if_icmp .ge 113, 3) := o162 hcX2_whoBits (a := 113) rfl rfl
theorem dX2_whoBits_15 : decode cX2_whoBits 15 = .ok (.iconst 1, 1) := o4 hcX2_whoBits rfl
theorem dX2_whoBits_16 : decode cX2_whoBits 16 = .ok (.istore_n 3, 1) := o62 hcX2_whoBits rfl
theorem dX2_whoBits_17 : decode cX2_whoBits 17 = .ok (.iconst 0, 1) := o3 hcX2_whoBits rfl
theorem dX2_whoBits_18 : decode cX2_whoBits 18 = .ok (.istore 4, 2) := o54 hcX2_whoBits rfl
theorem dX2_whoBits_20 : decode cX2_whoBits 20 = .ok (.iload 4, 2) := o21 hcX2_whoBits rfl
theorem dX2_whoBits_22 : decode cX2_whoBits 22 = .ok (.aload_n 0, 1) := o42 hcX2_whoBits rfl
theorem dX2_whoBits_23 : decode cX2_whoBits 23 = .ok (.getfield 18, 3) := o180 hcX2_whoBits rfl
theorem dX2_whoBits_26 : decode cX2_whoBits 26 = .ok (.getfield 141, 3) := o180 hcX2_whoBits rfl
theorem dX2_whoBits_29 : decode cX2_whoBits 29 = .ok (.getfield 53, 3) := o180 hcX2_whoBits rfl
theorem dX2_whoBits_32 : decode cX2_whoBits 32 = .ok (.if_icmp .ge 80, 3) := o162 hcX2_whoBits (a := 80) rfl rfl
theorem dX2_whoBits_35 : decode cX2_whoBits 35 = .ok (.iload_n 3, 1) := o29 hcX2_whoBits rfl
theorem dX2_whoBits_36 : decode cX2_whoBits 36 = .ok (.ifCond .eq 76, 3) := o153 hcX2_whoBits (a := 76) rfl rfl
theorem dX2_whoBits_39 : decode cX2_whoBits 39 = .ok (.aload_n 0, 1) := o42 hcX2_whoBits rfl
theorem dX2_whoBits_40 : decode cX2_whoBits 40 = .ok (.getfield 18, 3) := o180 hcX2_whoBits rfl
theorem dX2_whoBits_43 : decode cX2_whoBits 43 = .ok (.getfield 141, 3) := o180 hcX2_whoBits rfl
theorem dX2_whoBits_46 : decode cX2_whoBits 46 = .ok (.getfield 59, 3) := o180 hcX2_whoBits rfl
theorem dX2_whoBits_49 : decode cX2_whoBits 49 = .ok (.iload 4, 2) := o21 hcX2_whoBits rfl
theorem dX2_whoBits_51 : decode cX2_whoBits 51 = .ok (.iaload, 1) := o46 hcX2_whoBits rfl
theorem dX2_whoBits_52 : decode cX2_whoBits 52 = .ok (.istore 5, 2) := o54 hcX2_whoBits rfl
theorem dX2_whoBits_54 : decode cX2_whoBits 54 = .ok (.aload_n 0, 1) := o42 hcX2_whoBits rfl
theorem dX2_whoBits_55 : decode cX2_whoBits 55 = .ok (.iload_n 2, 1) := o28 hcX2_whoBits rfl
theorem dX2_whoBits_56 : decode cX2_whoBits 56 = .ok (.iload 5, 2) := o21 hcX2_whoBits rfl
theorem dX2_whoBits_58 : decode cX2_whoBits 58 = .ok (.aload_n 0, 1) := o42 hcX2_whoBits rfl
theorem dX2_whoBits_59 : decode cX2_whoBits 59 = .ok (.getfield 18, 3) := o180 hcX2_whoBits rfl
theorem dX2_whoBits_62 : decode cX2_whoBits 62 = .ok (.getfield 63, 3) := o180 hcX2_whoBits rfl
theorem dX2_whoBits_65 : decode cX2_whoBits 65 = .ok (.iload 5, 2) := o21 hcX2_whoBits rfl
theorem dX2_whoBits_67 : decode cX2_whoBits 67 = .ok (.iaload, 1) := o46 hcX2_whoBits rfl
theorem dX2_whoBits_68 : decode cX2_whoBits 68 = .ok (.invokevirtual 93, 3) := o182 hcX2_whoBits rfl
theorem dX2_whoBits_71 : decode cX2_whoBits 71 = .ok (.istore 6, 2) := o54 hcX2_whoBits rfl
theorem dX2_whoBits_73 : decode cX2_whoBits 73 = .ok (.iload 6, 2) := o21 hcX2_whoBits rfl
theorem dX2_whoBits_75 : decode cX2_whoBits 75 = .ok (.aload_n 0, 1) := o42 hcX2_whoBits rfl
theorem dX2_whoBits_76 : decode cX2_whoBits 76 = .ok (.getfield 18, 3) := o180 hcX2_whoBits rfl
theorem dX2_whoBits_79 : decode cX2_whoBits 79 = .ok (.getfield 141, 3) := o180 hcX2_whoBits rfl
theorem dX2_whoBits_82 : decode cX2_whoBits 82 = .ok (.getfield 144, 3) := o180 hcX2_whoBits rfl
theorem dX2_whoBits_85 : decode cX2_whoBits 85 = .ok (.iload 4, 2) := o21 hcX2_whoBits rfl
theorem dX2_whoBits_87 : decode cX2_whoBits 87 = .ok (.iaload, 1) := o46 hcX2_whoBits rfl
theorem dX2_whoBits_88 : decode cX2_whoBits 88 = .ok (.iconst 1, 1) := o4 hcX2_whoBits rfl
theorem dX2_whoBits_89 : decode cX2_whoBits 89 = .ok (.if_icmp .ne 7, 3) := o160 hcX2_whoBits (a := 7) rfl rfl
theorem dX2_whoBits_92 : decode cX2_whoBits 92 = .ok (.iconst 1, 1) := o4 hcX2_whoBits rfl
theorem dX2_whoBits_93 : decode cX2_whoBits 93 = .ok (.goto 4, 3) := o167 hcX2_whoBits (a := 4) rfl rfl
theorem dX2_whoBits_96 : decode cX2_whoBits 96 = .ok (.iconst 0, 1) := o3 hcX2_whoBits rfl
theorem dX2_whoBits_97 : decode cX2_whoBits 97 = .ok (.if_icmp .ne 7, 3) := o160 hcX2_whoBits (a := 7) rfl rfl
theorem dX2_whoBits_100 : decode cX2_whoBits 100 = .ok (.iconst 1, 1) := o4 hcX2_whoBits rfl
theorem dX2_whoBits_101 : decode cX2_whoBits 101 = .ok (.goto 4, 3) := o167 hcX2_whoBits (a := 4) rfl rfl
theorem dX2_whoBits_104 : decode cX2_whoBits 104 = .ok (.iconst 0, 1) := o3 hcX2_whoBits rfl
theorem dX2_whoBits_105 : decode cX2_whoBits 105 = .ok (.istore_n 3, 1) := o62 hcX2_whoBits rfl
theorem dX2_whoBits_106 : decode cX2_whoBits 106 = .ok (.iinc 4 1, 3) := o132 hcX2_whoBits (b := 1) rfl rfl
theorem dX2_whoBits_109 : decode cX2_whoBits 109 = .ok (.goto (-89), 3) := o167 hcX2_whoBits (a := 65447) rfl rfl
theorem dX2_whoBits_112 : decode cX2_whoBits 112 = .ok (.iload_n 1, 1) := o27 hcX2_whoBits rfl
theorem dX2_whoBits_113 : decode cX2_whoBits 113 = .ok (.iload_n 2, 1) := o28 hcX2_whoBits rfl
theorem dX2_whoBits_114 : decode cX2_whoBits 114 = .ok (.iload_n 3, 1) := o29 hcX2_whoBits rfl
theorem dX2_whoBits_115 : decode cX2_whoBits 115 = .ok (.invokestatic 147, 3) := o184 hcX2_whoBits rfl
theorem dX2_whoBits_118 : decode cX2_whoBits 118 = .ok (.istore_n 1, 1) := o60 hcX2_whoBits rfl
theorem dX2_whoBits_119 : decode cX2_whoBits 119 = .ok (.iinc 2 1, 3) := o132 hcX2_whoBits (b := 1) rfl rfl
theorem dX2_whoBits_122 : decode cX2_whoBits 122 = .ok (.goto (-118), 3) := o167 hcX2_whoBits (a := 65418) rfl rfl
theorem dX2_whoBits_125 : decode cX2_whoBits 125 = .ok (.iload_n 1, 1) := o27 hcX2_whoBits rfl
theorem dX2_whoBits_126 : decode cX2_whoBits 126 = .ok (.ireturn, 1) := o172 hcX2_whoBits rfl
theorem dX2_houseToWatch_0 : decode cX2_houseToWatch 0 = .ok (.aload_n 0, 1) := o42 hcX2_houseToWatch rfl
theorem dX2_houseToWatch_1 : decode cX2_houseToWatch 1 = .ok (.invokevirtual 151, 3) := o182 hcX2_houseToWatch rfl
theorem dX2_houseToWatch_4 : decode cX2_houseToWatch 4 = .ok (.istore_n 1, 1) := o60 hcX2_houseToWatch rfl
theorem dX2_houseToWatch_5 : decode cX2_houseToWatch 5 = .ok (.bipush (-5), 2) := o16 hcX2_houseToWatch (a := 251) rfl rfl
theorem dX2_houseToWatch_7 : decode cX2_houseToWatch 7 = .ok (.istore_n 2, 1) := o61 hcX2_houseToWatch rfl
theorem dX2_houseToWatch_8 : decode cX2_houseToWatch 8 = .ok (.iconst 5, 1) := o8 hcX2_houseToWatch rfl
theorem dX2_houseToWatch_9 : decode cX2_houseToWatch 9 = .ok (.istore_n 3, 1) := o62 hcX2_houseToWatch rfl
theorem dX2_houseToWatch_10 : decode cX2_houseToWatch 10 = .ok (.iconst 0, 1) := o3 hcX2_houseToWatch rfl
theorem dX2_houseToWatch_11 : decode cX2_houseToWatch 11 = .ok (.istore 4, 2) := o54 hcX2_houseToWatch rfl
theorem dX2_houseToWatch_13 : decode cX2_houseToWatch 13 = .ok (.iload 4, 2) := o21 hcX2_houseToWatch rfl
theorem dX2_houseToWatch_15 : decode cX2_houseToWatch 15 = .ok (.aload_n 0, 1) := o42 hcX2_houseToWatch rfl
theorem dX2_houseToWatch_16 : decode cX2_houseToWatch 16 = .ok (.getfield 18, 3) := o180 hcX2_houseToWatch rfl
theorem dX2_houseToWatch_19 : decode cX2_houseToWatch 19 = .ok (.getfield 97, 3) := o180 hcX2_houseToWatch rfl
theorem dX2_houseToWatch_22 : decode cX2_houseToWatch 22 = .ok (.if_icmp .ge 34, 3) := o162 hcX2_houseToWatch (a := 34) rfl rfl
theorem dX2_houseToWatch_25 : decode cX2_houseToWatch 25 = .ok (.iload_n 1, 1) := o27 hcX2_houseToWatch rfl
theorem dX2_houseToWatch_26 : decode cX2_houseToWatch 26 = .ok (.ifCond .eq 30, 3) := o153 hcX2_houseToWatch (a := 30) rfl rfl
theorem dX2_houseToWatch_29 : decode cX2_houseToWatch 29 = .ok (.aload_n 0, 1) := o42 hcX2_houseToWatch rfl
theorem dX2_houseToWatch_30 : decode cX2_houseToWatch 30 = .ok (.iload 4, 2) := o21 hcX2_houseToWatch rfl
theorem dX2_houseToWatch_32 : decode cX2_houseToWatch 32 = .ok (.iload_n 1, 1) := o27 hcX2_houseToWatch rfl
theorem dX2_houseToWatch_33 : decode cX2_houseToWatch 33 = .ok (.invokevirtual 155, 3) := o182 hcX2_houseToWatch rfl
theorem dX2_houseToWatch_36 : decode cX2_houseToWatch 36 = .ok (.istore 5, 2) := o54 hcX2_houseToWatch rfl
theorem dX2_houseToWatch_38 : decode cX2_houseToWatch 38 = .ok (.iload 5, 2) := o21 hcX2_houseToWatch rfl
theorem dX2_houseToWatch_40 : decode cX2_houseToWatch 40 = .ok (.iload_n 3, 1) := o29 hcX2_houseToWatch rfl
theorem dX2_houseToWatch_41 : decode cX2_houseToWatch 41 = .ok (.if_icmp .ge 9, 3) := o162 hcX2_houseToWatch (a := 9) rfl rfl
theorem dX2_houseToWatch_44 : decode cX2_houseToWatch 44 = .ok (.iload 5, 2) := o21 hcX2_houseToWatch rfl
theorem dX2_houseToWatch_46 : decode cX2_houseToWatch 46 = .ok (.istore_n 3, 1) := o62 hcX2_houseToWatch rfl
theorem dX2_houseToWatch_47 : decode cX2_houseToWatch 47 = .ok (.iload 4, 2) := o21 hcX2_houseToWatch rfl
theorem dX2_houseToWatch_49 : decode cX2_houseToWatch 49 = .ok (.istore_n 2, 1) := o61 hcX2_houseToWatch rfl
theorem dX2_houseToWatch_50 : decode cX2_houseToWatch 50 = .ok (.iinc 4 1, 3) := o132 hcX2_houseToWatch (b := 1) rfl rfl
theorem dX2_houseToWatch_53 : decode cX2_houseToWatch 53 = .ok (.goto (-40), 3) := o167 hcX2_houseToWatch (a := 65496) rfl rfl
theorem dX2_houseToWatch_56 : decode cX2_houseToWatch 56 = .ok (.iload_n 2, 1) := o28 hcX2_houseToWatch rfl
theorem dX2_houseToWatch_57 : decode cX2_houseToWatch 57 = .ok (.ireturn, 1) := o172 hcX2_houseToWatch rfl
theorem dX2_apartAt_0 : decode cX2_apartAt 0 = .ok (.iconst 0, 1) := o3 hcX2_apartAt rfl
theorem dX2_apartAt_1 : decode cX2_apartAt 1 = .ok (.istore_n 3, 1) := o62 hcX2_apartAt rfl
theorem dX2_apartAt_2 : decode cX2_apartAt 2 = .ok (.iconst 0, 1) := o3 hcX2_apartAt rfl
theorem dX2_apartAt_3 : decode cX2_apartAt 3 = .ok (.istore 4, 2) := o54 hcX2_apartAt rfl
theorem dX2_apartAt_5 : decode cX2_apartAt 5 = .ok (.iload 4, 2) := o21 hcX2_apartAt rfl
theorem dX2_apartAt_7 : decode cX2_apartAt 7 = .ok (.aload_n 0, 1) := o42 hcX2_apartAt rfl
theorem dX2_apartAt_8 : decode cX2_apartAt 8 = .ok (.getfield 18, 3) := o180 hcX2_apartAt rfl
theorem dX2_apartAt_11 : decode cX2_apartAt 11 = .ok (.getfield 109, 3) := o180 hcX2_apartAt rfl
theorem dX2_apartAt_14 : decode cX2_apartAt 14 = .ok (.if_icmp .ge 46, 3) := o162 hcX2_apartAt (a := 46) rfl rfl
theorem dX2_apartAt_17 : decode cX2_apartAt 17 = .ok (.iload_n 2, 1) := o28 hcX2_apartAt rfl
theorem dX2_apartAt_18 : decode cX2_apartAt 18 = .ok (.iload 4, 2) := o21 hcX2_apartAt rfl
theorem dX2_apartAt_20 : decode cX2_apartAt 20 = .ok (.invokestatic 158, 3) := o184 hcX2_apartAt rfl
theorem dX2_apartAt_23 : decode cX2_apartAt 23 = .ok (.iconst 1, 1) := o4 hcX2_apartAt rfl
theorem dX2_apartAt_24 : decode cX2_apartAt 24 = .ok (.if_icmp .ne 30, 3) := o160 hcX2_apartAt (a := 30) rfl rfl
theorem dX2_apartAt_27 : decode cX2_apartAt 27 = .ok (.iload_n 3, 1) := o29 hcX2_apartAt rfl
theorem dX2_apartAt_28 : decode cX2_apartAt 28 = .ok (.aload_n 0, 1) := o42 hcX2_apartAt rfl
theorem dX2_apartAt_29 : decode cX2_apartAt 29 = .ok (.iload 4, 2) := o21 hcX2_apartAt rfl
theorem dX2_apartAt_31 : decode cX2_apartAt 31 = .ok (.iload_n 1, 1) := o27 hcX2_apartAt rfl
theorem dX2_apartAt_32 : decode cX2_apartAt 32 = .ok (.aload_n 0, 1) := o42 hcX2_apartAt rfl
theorem dX2_apartAt_33 : decode cX2_apartAt 33 = .ok (.getfield 18, 3) := o180 hcX2_apartAt rfl
theorem dX2_apartAt_36 : decode cX2_apartAt 36 = .ok (.getfield 63, 3) := o180 hcX2_apartAt rfl
theorem dX2_apartAt_39 : decode cX2_apartAt 39 = .ok (.iload_n 1, 1) := o27 hcX2_apartAt rfl
theorem dX2_apartAt_40 : decode cX2_apartAt 40 = .ok (.iaload, 1) := o46 hcX2_apartAt rfl
theorem dX2_apartAt_41 : decode cX2_apartAt 41 = .ok (.invokevirtual 93, 3) := o182 hcX2_apartAt rfl
theorem dX2_apartAt_44 : decode cX2_apartAt 44 = .ok (.ifCond .eq 7, 3) := o153 hcX2_apartAt (a := 7) rfl rfl
theorem dX2_apartAt_47 : decode cX2_apartAt 47 = .ok (.iconst 1, 1) := o4 hcX2_apartAt rfl
theorem dX2_apartAt_48 : decode cX2_apartAt 48 = .ok (.goto 4, 3) := o167 hcX2_apartAt (a := 4) rfl rfl
theorem dX2_apartAt_51 : decode cX2_apartAt 51 = .ok (.iconst (-1), 1) := o2 hcX2_apartAt rfl
theorem dX2_apartAt_52 : decode cX2_apartAt 52 = .ok (.iadd, 1) := o96 hcX2_apartAt rfl
theorem dX2_apartAt_53 : decode cX2_apartAt 53 = .ok (.istore_n 3, 1) := o62 hcX2_apartAt rfl
theorem dX2_apartAt_54 : decode cX2_apartAt 54 = .ok (.iinc 4 1, 3) := o132 hcX2_apartAt (b := 1) rfl rfl
theorem dX2_apartAt_57 : decode cX2_apartAt 57 = .ok (.goto (-52), 3) := o167 hcX2_apartAt (a := 65484) rfl rfl
theorem dX2_apartAt_60 : decode cX2_apartAt 60 = .ok (.iload_n 3, 1) := o29 hcX2_apartAt rfl
theorem dX2_apartAt_61 : decode cX2_apartAt 61 = .ok (.invokestatic 138, 3) := o184 hcX2_apartAt rfl
theorem dX2_apartAt_64 : decode cX2_apartAt 64 = .ok (.ireturn, 1) := o172 hcX2_apartAt rfl
theorem dX2_leastStart_0 : decode cX2_leastStart 0 = .ok (.aload_n 0, 1) := o42 hcX2_leastStart rfl
theorem dX2_leastStart_1 : decode cX2_leastStart 1 = .ok (.getfield 31, 3) := o180 hcX2_leastStart rfl
theorem dX2_leastStart_4 : decode cX2_leastStart 4 = .ok (.iload_n 1, 1) := o27 hcX2_leastStart rfl
theorem dX2_leastStart_5 : decode cX2_leastStart 5 = .ok (.iload_n 2, 1) := o28 hcX2_leastStart rfl
theorem dX2_leastStart_6 : decode cX2_leastStart 6 = .ok (.aload_n 0, 1) := o42 hcX2_leastStart rfl
theorem dX2_leastStart_7 : decode cX2_leastStart 7 = .ok (.getfield 18, 3) := o180 hcX2_leastStart rfl
theorem dX2_leastStart_10 : decode cX2_leastStart 10 = .ok (.getfield 63, 3) := o180 hcX2_leastStart rfl
theorem dX2_leastStart_13 : decode cX2_leastStart 13 = .ok (.iload_n 2, 1) := o28 hcX2_leastStart rfl
theorem dX2_leastStart_14 : decode cX2_leastStart 14 = .ok (.iaload, 1) := o46 hcX2_leastStart rfl
theorem dX2_leastStart_15 : decode cX2_leastStart 15 = .ok (.invokevirtual 35, 3) := o182 hcX2_leastStart rfl
theorem dX2_leastStart_18 : decode cX2_leastStart 18 = .ok (.iconst 0, 1) := o3 hcX2_leastStart rfl
theorem dX2_leastStart_19 : decode cX2_leastStart 19 = .ok (.istore_n 3, 1) := o62 hcX2_leastStart rfl
theorem dX2_leastStart_20 : decode cX2_leastStart 20 = .ok (.iload_n 3, 1) := o29 hcX2_leastStart rfl
theorem dX2_leastStart_21 : decode cX2_leastStart 21 = .ok (.bipush 98, 2) := o16 hcX2_leastStart (a := 98) rfl rfl
theorem dX2_leastStart_23 : decode cX2_leastStart 23 = .ok (.if_icmp .gt 31, 3) := o163 hcX2_leastStart (a := 31) rfl rfl
theorem dX2_leastStart_26 : decode cX2_leastStart 26 = .ok (.aload_n 0, 1) := o42 hcX2_leastStart rfl
theorem dX2_leastStart_27 : decode cX2_leastStart 27 = .ok (.getfield 31, 3) := o180 hcX2_leastStart rfl
theorem dX2_leastStart_30 : decode cX2_leastStart 30 = .ok (.iload_n 1, 1) := o27 hcX2_leastStart rfl
theorem dX2_leastStart_31 : decode cX2_leastStart 31 = .ok (.iload_n 3, 1) := o29 hcX2_leastStart rfl
theorem dX2_leastStart_32 : decode cX2_leastStart 32 = .ok (.invokevirtual 39, 3) := o182 hcX2_leastStart rfl
theorem dX2_leastStart_35 : decode cX2_leastStart 35 = .ok (.aload_n 0, 1) := o42 hcX2_leastStart rfl
theorem dX2_leastStart_36 : decode cX2_leastStart 36 = .ok (.getfield 31, 3) := o180 hcX2_leastStart rfl
theorem dX2_leastStart_39 : decode cX2_leastStart 39 = .ok (.iload_n 2, 1) := o28 hcX2_leastStart rfl
theorem dX2_leastStart_40 : decode cX2_leastStart 40 = .ok (.invokevirtual 43, 3) := o182 hcX2_leastStart rfl
theorem dX2_leastStart_43 : decode cX2_leastStart 43 = .ok (.ifCond .eq 5, 3) := o153 hcX2_leastStart (a := 5) rfl rfl
theorem dX2_leastStart_46 : decode cX2_leastStart 46 = .ok (.iload_n 3, 1) := o29 hcX2_leastStart rfl
theorem dX2_leastStart_47 : decode cX2_leastStart 47 = .ok (.ireturn, 1) := o172 hcX2_leastStart rfl
theorem dX2_leastStart_48 : decode cX2_leastStart 48 = .ok (.iinc 3 1, 3) := o132 hcX2_leastStart (b := 1) rfl rfl
theorem dX2_leastStart_51 : decode cX2_leastStart 51 = .ok (.goto (-31), 3) := o167 hcX2_leastStart (a := 65505) rfl rfl
theorem dX2_leastStart_54 : decode cX2_leastStart 54 = .ok (.bipush (-5), 2) := o16 hcX2_leastStart (a := 251) rfl rfl
theorem dX2_leastStart_56 : decode cX2_leastStart 56 = .ok (.ireturn, 1) := o172 hcX2_leastStart rfl
theorem dX2_goodStarts_0 : decode cX2_goodStarts 0 = .ok (.iconst 0, 1) := o3 hcX2_goodStarts rfl
theorem dX2_goodStarts_1 : decode cX2_goodStarts 1 = .ok (.istore_n 3, 1) := o62 hcX2_goodStarts rfl
theorem dX2_goodStarts_2 : decode cX2_goodStarts 2 = .ok (.aload_n 0, 1) := o42 hcX2_goodStarts rfl
theorem dX2_goodStarts_3 : decode cX2_goodStarts 3 = .ok (.getfield 31, 3) := o180 hcX2_goodStarts rfl
theorem dX2_goodStarts_6 : decode cX2_goodStarts 6 = .ok (.iload_n 1, 1) := o27 hcX2_goodStarts rfl
theorem dX2_goodStarts_7 : decode cX2_goodStarts 7 = .ok (.iload_n 2, 1) := o28 hcX2_goodStarts rfl
theorem dX2_goodStarts_8 : decode cX2_goodStarts 8 = .ok (.aload_n 0, 1) := o42 hcX2_goodStarts rfl
theorem dX2_goodStarts_9 : decode cX2_goodStarts 9 = .ok (.getfield 18, 3) := o180 hcX2_goodStarts rfl
theorem dX2_goodStarts_12 : decode cX2_goodStarts 12 = .ok (.getfield 63, 3) := o180 hcX2_goodStarts rfl
theorem dX2_goodStarts_15 : decode cX2_goodStarts 15 = .ok (.iload_n 2, 1) := o28 hcX2_goodStarts rfl
theorem dX2_goodStarts_16 : decode cX2_goodStarts 16 = .ok (.iaload, 1) := o46 hcX2_goodStarts rfl
theorem dX2_goodStarts_17 : decode cX2_goodStarts 17 = .ok (.invokevirtual 35, 3) := o182 hcX2_goodStarts rfl
theorem dX2_goodStarts_20 : decode cX2_goodStarts 20 = .ok (.iconst 0, 1) := o3 hcX2_goodStarts rfl
theorem dX2_goodStarts_21 : decode cX2_goodStarts 21 = .ok (.istore 4, 2) := o54 hcX2_goodStarts rfl
theorem dX2_goodStarts_23 : decode cX2_goodStarts 23 = .ok (.iload 4, 2) := o21 hcX2_goodStarts rfl
theorem dX2_goodStarts_25 : decode cX2_goodStarts 25 = .ok (.bipush 60, 2) := o16 hcX2_goodStarts (a := 60) rfl rfl
theorem dX2_goodStarts_27 : decode cX2_goodStarts 27 = .ok (.if_icmp .ge 33, 3) := o162 hcX2_goodStarts (a := 33) rfl rfl
theorem dX2_goodStarts_30 : decode cX2_goodStarts 30 = .ok (.aload_n 0, 1) := o42 hcX2_goodStarts rfl
theorem dX2_goodStarts_31 : decode cX2_goodStarts 31 = .ok (.getfield 31, 3) := o180 hcX2_goodStarts rfl
theorem dX2_goodStarts_34 : decode cX2_goodStarts 34 = .ok (.iload_n 1, 1) := o27 hcX2_goodStarts rfl
theorem dX2_goodStarts_35 : decode cX2_goodStarts 35 = .ok (.iload 4, 2) := o21 hcX2_goodStarts rfl
theorem dX2_goodStarts_37 : decode cX2_goodStarts 37 = .ok (.invokevirtual 39, 3) := o182 hcX2_goodStarts rfl
theorem dX2_goodStarts_40 : decode cX2_goodStarts 40 = .ok (.aload_n 0, 1) := o42 hcX2_goodStarts rfl
theorem dX2_goodStarts_41 : decode cX2_goodStarts 41 = .ok (.getfield 31, 3) := o180 hcX2_goodStarts rfl
theorem dX2_goodStarts_44 : decode cX2_goodStarts 44 = .ok (.iload_n 2, 1) := o28 hcX2_goodStarts rfl
theorem dX2_goodStarts_45 : decode cX2_goodStarts 45 = .ok (.invokevirtual 43, 3) := o182 hcX2_goodStarts rfl
theorem dX2_goodStarts_48 : decode cX2_goodStarts 48 = .ok (.ifCond .eq 6, 3) := o153 hcX2_goodStarts (a := 6) rfl rfl
theorem dX2_goodStarts_51 : decode cX2_goodStarts 51 = .ok (.iinc 3 1, 3) := o132 hcX2_goodStarts (b := 1) rfl rfl
theorem dX2_goodStarts_54 : decode cX2_goodStarts 54 = .ok (.iinc 4 1, 3) := o132 hcX2_goodStarts (b := 1) rfl rfl
theorem dX2_goodStarts_57 : decode cX2_goodStarts 57 = .ok (.goto (-34), 3) := o167 hcX2_goodStarts (a := 65502) rfl rfl
theorem dX2_goodStarts_60 : decode cX2_goodStarts 60 = .ok (.iload_n 3, 1) := o29 hcX2_goodStarts rfl
theorem dX2_goodStarts_61 : decode cX2_goodStarts 61 = .ok (.ireturn, 1) := o172 hcX2_goodStarts rfl
theorem dX2_minutesOfAll_0 : decode cX2_minutesOfAll 0 = .ok (.iconst 0, 1) := o3 hcX2_minutesOfAll rfl
theorem dX2_minutesOfAll_1 : decode cX2_minutesOfAll 1 = .ok (.istore_n 2, 1) := o61 hcX2_minutesOfAll rfl
theorem dX2_minutesOfAll_2 : decode cX2_minutesOfAll 2 = .ok (.iconst 0, 1) := o3 hcX2_minutesOfAll rfl
theorem dX2_minutesOfAll_3 : decode cX2_minutesOfAll 3 = .ok (.istore_n 3, 1) := o62 hcX2_minutesOfAll rfl
theorem dX2_minutesOfAll_4 : decode cX2_minutesOfAll 4 = .ok (.iload_n 3, 1) := o29 hcX2_minutesOfAll rfl
theorem dX2_minutesOfAll_5 : decode cX2_minutesOfAll 5 = .ok (.aload_n 0, 1) := o42 hcX2_minutesOfAll rfl
theorem dX2_minutesOfAll_6 : decode cX2_minutesOfAll 6 = .ok (.getfield 18, 3) := o180 hcX2_minutesOfAll rfl
theorem dX2_minutesOfAll_9 : decode cX2_minutesOfAll 9 = .ok (.getfield 109, 3) := o180 hcX2_minutesOfAll rfl
theorem dX2_minutesOfAll_12 : decode cX2_minutesOfAll 12 = .ok (.if_icmp .ge 35, 3) := o162 hcX2_minutesOfAll (a := 35) rfl rfl
theorem dX2_minutesOfAll_15 : decode cX2_minutesOfAll 15 = .ok (.aload_n 0, 1) := o42 hcX2_minutesOfAll rfl
theorem dX2_minutesOfAll_16 : decode cX2_minutesOfAll 16 = .ok (.iload_n 3, 1) := o29 hcX2_minutesOfAll rfl
theorem dX2_minutesOfAll_17 : decode cX2_minutesOfAll 17 = .ok (.iload_n 1, 1) := o27 hcX2_minutesOfAll rfl
theorem dX2_minutesOfAll_18 : decode cX2_minutesOfAll 18 = .ok (.aload_n 0, 1) := o42 hcX2_minutesOfAll rfl
theorem dX2_minutesOfAll_19 : decode cX2_minutesOfAll 19 = .ok (.getfield 18, 3) := o180 hcX2_minutesOfAll rfl
theorem dX2_minutesOfAll_22 : decode cX2_minutesOfAll 22 = .ok (.getfield 63, 3) := o180 hcX2_minutesOfAll rfl
theorem dX2_minutesOfAll_25 : decode cX2_minutesOfAll 25 = .ok (.iload_n 1, 1) := o27 hcX2_minutesOfAll rfl
theorem dX2_minutesOfAll_26 : decode cX2_minutesOfAll 26 = .ok (.iaload, 1) := o46 hcX2_minutesOfAll rfl
theorem dX2_minutesOfAll_27 : decode cX2_minutesOfAll 27 = .ok (.invokevirtual 93, 3) := o182 hcX2_minutesOfAll rfl
theorem dX2_minutesOfAll_30 : decode cX2_minutesOfAll 30 = .ok (.pop, 1) := o87 hcX2_minutesOfAll rfl
theorem dX2_minutesOfAll_31 : decode cX2_minutesOfAll 31 = .ok (.iload_n 2, 1) := o28 hcX2_minutesOfAll rfl
theorem dX2_minutesOfAll_32 : decode cX2_minutesOfAll 32 = .ok (.aload_n 0, 1) := o42 hcX2_minutesOfAll rfl
theorem dX2_minutesOfAll_33 : decode cX2_minutesOfAll 33 = .ok (.getfield 31, 3) := o180 hcX2_minutesOfAll rfl
theorem dX2_minutesOfAll_36 : decode cX2_minutesOfAll 36 = .ok (.getfield 83, 3) := o180 hcX2_minutesOfAll rfl
theorem dX2_minutesOfAll_39 : decode cX2_minutesOfAll 39 = .ok (.iadd, 1) := o96 hcX2_minutesOfAll rfl
theorem dX2_minutesOfAll_40 : decode cX2_minutesOfAll 40 = .ok (.istore_n 2, 1) := o61 hcX2_minutesOfAll rfl
theorem dX2_minutesOfAll_41 : decode cX2_minutesOfAll 41 = .ok (.iinc 3 1, 3) := o132 hcX2_minutesOfAll (b := 1) rfl rfl
theorem dX2_minutesOfAll_44 : decode cX2_minutesOfAll 44 = .ok (.goto (-40), 3) := o167 hcX2_minutesOfAll (a := 65496) rfl rfl
theorem dX2_minutesOfAll_47 : decode cX2_minutesOfAll 47 = .ok (.iload_n 2, 1) := o28 hcX2_minutesOfAll rfl
theorem dX2_minutesOfAll_48 : decode cX2_minutesOfAll 48 = .ok (.ireturn, 1) := o172 hcX2_minutesOfAll rfl
theorem dX2_firstKeptOut_0 : decode cX2_firstKeptOut 0 = .ok (.iconst 0, 1) := o3 hcX2_firstKeptOut rfl
theorem dX2_firstKeptOut_1 : decode cX2_firstKeptOut 1 = .ok (.istore_n 1, 1) := o60 hcX2_firstKeptOut rfl
theorem dX2_firstKeptOut_2 : decode cX2_firstKeptOut 2 = .ok (.iload_n 1, 1) := o27 hcX2_firstKeptOut rfl
theorem dX2_firstKeptOut_3 : decode cX2_firstKeptOut 3 = .ok (.aload_n 0, 1) := o42 hcX2_firstKeptOut rfl
theorem dX2_firstKeptOut_4 : decode cX2_firstKeptOut 4 = .ok (.getfield 18, 3) := o180 hcX2_firstKeptOut rfl
theorem dX2_firstKeptOut_7 : decode cX2_firstKeptOut 7 = .ok (.getfield 161, 3) := o180 hcX2_firstKeptOut rfl
theorem dX2_firstKeptOut_10 : decode cX2_firstKeptOut 10 = .ok (.getfield 53, 3) := o180 hcX2_firstKeptOut rfl
theorem dX2_firstKeptOut_13 : decode cX2_firstKeptOut 13 = .ok (.if_icmp .ge 55, 3) := o162 hcX2_firstKeptOut (a := 55) rfl rfl
theorem dX2_firstKeptOut_16 : decode cX2_firstKeptOut 16 = .ok (.aload_n 0, 1) := o42 hcX2_firstKeptOut rfl
theorem dX2_firstKeptOut_17 : decode cX2_firstKeptOut 17 = .ok (.getfield 18, 3) := o180 hcX2_firstKeptOut rfl
theorem dX2_firstKeptOut_20 : decode cX2_firstKeptOut 20 = .ok (.getfield 161, 3) := o180 hcX2_firstKeptOut rfl
theorem dX2_firstKeptOut_23 : decode cX2_firstKeptOut 23 = .ok (.getfield 59, 3) := o180 hcX2_firstKeptOut rfl
theorem dX2_firstKeptOut_26 : decode cX2_firstKeptOut 26 = .ok (.iload_n 1, 1) := o27 hcX2_firstKeptOut rfl
theorem dX2_firstKeptOut_27 : decode cX2_firstKeptOut 27 = .ok (.iaload, 1) := o46 hcX2_firstKeptOut rfl
theorem dX2_firstKeptOut_28 : decode cX2_firstKeptOut 28 = .ok (.istore_n 2, 1) := o61 hcX2_firstKeptOut rfl
theorem dX2_firstKeptOut_29 : decode cX2_firstKeptOut 29 = .ok (.aload_n 0, 1) := o42 hcX2_firstKeptOut rfl
theorem dX2_firstKeptOut_30 : decode cX2_firstKeptOut 30 = .ok (.getfield 18, 3) := o180 hcX2_firstKeptOut rfl
theorem dX2_firstKeptOut_33 : decode cX2_firstKeptOut 33 = .ok (.getfield 161, 3) := o180 hcX2_firstKeptOut rfl
theorem dX2_firstKeptOut_36 : decode cX2_firstKeptOut 36 = .ok (.getfield 144, 3) := o180 hcX2_firstKeptOut rfl
theorem dX2_firstKeptOut_39 : decode cX2_firstKeptOut 39 = .ok (.iload_n 1, 1) := o27 hcX2_firstKeptOut rfl
theorem dX2_firstKeptOut_40 : decode cX2_firstKeptOut 40 = .ok (.iaload, 1) := o46 hcX2_firstKeptOut rfl
theorem dX2_firstKeptOut_41 : decode cX2_firstKeptOut 41 = .ok (.istore_n 3, 1) := o62 hcX2_firstKeptOut rfl
theorem dX2_firstKeptOut_42 : decode cX2_firstKeptOut 42 = .ok (.aload_n 0, 1) := o42 hcX2_firstKeptOut rfl
theorem dX2_firstKeptOut_43 : decode cX2_firstKeptOut 43 = .ok (.iload_n 2, 1) := o28 hcX2_firstKeptOut rfl
theorem dX2_firstKeptOut_44 : decode cX2_firstKeptOut 44 = .ok (.iload_n 3, 1) := o29 hcX2_firstKeptOut rfl
theorem dX2_firstKeptOut_45 : decode cX2_firstKeptOut 45 = .ok (.aload_n 0, 1) := o42 hcX2_firstKeptOut rfl
theorem dX2_firstKeptOut_46 : decode cX2_firstKeptOut 46 = .ok (.getfield 18, 3) := o180 hcX2_firstKeptOut rfl
theorem dX2_firstKeptOut_49 : decode cX2_firstKeptOut 49 = .ok (.getfield 63, 3) := o180 hcX2_firstKeptOut rfl
theorem dX2_firstKeptOut_52 : decode cX2_firstKeptOut 52 = .ok (.iload_n 3, 1) := o29 hcX2_firstKeptOut rfl
theorem dX2_firstKeptOut_53 : decode cX2_firstKeptOut 53 = .ok (.iaload, 1) := o46 hcX2_firstKeptOut rfl
theorem dX2_firstKeptOut_54 : decode cX2_firstKeptOut 54 = .ok (.invokevirtual 93, 3) := o182 hcX2_firstKeptOut rfl
theorem dX2_firstKeptOut_57 : decode cX2_firstKeptOut 57 = .ok (.ifCond .ne 5, 3) := o154 hcX2_firstKeptOut (a := 5) rfl rfl
theorem dX2_firstKeptOut_60 : decode cX2_firstKeptOut 60 = .ok (.iload_n 2, 1) := o28 hcX2_firstKeptOut rfl
theorem dX2_firstKeptOut_61 : decode cX2_firstKeptOut 61 = .ok (.ireturn, 1) := o172 hcX2_firstKeptOut rfl
theorem dX2_firstKeptOut_62 : decode cX2_firstKeptOut 62 = .ok (.iinc 1 1, 3) := o132 hcX2_firstKeptOut (b := 1) rfl rfl
theorem dX2_firstKeptOut_65 : decode cX2_firstKeptOut 65 = .ok (.goto (-63), 3) := o167 hcX2_firstKeptOut (a := 65473) rfl rfl
theorem dX2_firstKeptOut_68 : decode cX2_firstKeptOut 68 = .ok (.bipush (-5), 2) := o16 hcX2_firstKeptOut (a := 251) rfl rfl
theorem dX2_firstKeptOut_70 : decode cX2_firstKeptOut 70 = .ok (.ireturn, 1) := o172 hcX2_firstKeptOut rfl
theorem dX3_init_0 : decode cX3_init 0 = .ok (.aload_n 0, 1) := o42 hcX3_init rfl
theorem dX3_init_1 : decode cX3_init 1 = .ok (.invokespecial 3, 3) := o183 hcX3_init rfl
theorem dX3_init_4 : decode cX3_init 4 = .ok (.aload_n 0, 1) := o42 hcX3_init rfl
theorem dX3_init_5 : decode cX3_init 5 = .ok (.iconst 5, 1) := o8 hcX3_init rfl
theorem dX3_init_6 : decode cX3_init 6 = .ok (.newarray .int, 2) := by decide +kernel
theorem dX3_init_8 : decode cX3_init 8 = .ok (.putfield 9, 3) := o181 hcX3_init rfl
theorem dX3_init_11 : decode cX3_init 11 = .ok (.aload_n 0, 1) := o42 hcX3_init rfl
theorem dX3_init_12 : decode cX3_init 12 = .ok (.iconst 5, 1) := o8 hcX3_init rfl
theorem dX3_init_13 : decode cX3_init 13 = .ok (.newarray .int, 2) := by decide +kernel
theorem dX3_init_15 : decode cX3_init 15 = .ok (.putfield 15, 3) := o181 hcX3_init rfl
theorem dX3_init_18 : decode cX3_init 18 = .ok (.return_, 1) := o177 hcX3_init rfl
theorem dX3_start_0 : decode cX3_start 0 = .ok (.aload_n 0, 1) := o42 hcX3_start rfl
theorem dX3_start_1 : decode cX3_start 1 = .ok (.iconst 0, 1) := o3 hcX3_start rfl
theorem dX3_start_2 : decode cX3_start 2 = .ok (.putfield 18, 3) := o181 hcX3_start rfl
theorem dX3_start_5 : decode cX3_start 5 = .ok (.aload_n 0, 1) := o42 hcX3_start rfl
theorem dX3_start_6 : decode cX3_start 6 = .ok (.iconst (-1), 1) := o2 hcX3_start rfl
theorem dX3_start_7 : decode cX3_start 7 = .ok (.putfield 22, 3) := o181 hcX3_start rfl
theorem dX3_start_10 : decode cX3_start 10 = .ok (.aload_n 0, 1) := o42 hcX3_start rfl
theorem dX3_start_11 : decode cX3_start 11 = .ok (.iconst 0, 1) := o3 hcX3_start rfl
theorem dX3_start_12 : decode cX3_start 12 = .ok (.putfield 25, 3) := o181 hcX3_start rfl
theorem dX3_start_15 : decode cX3_start 15 = .ok (.iconst 0, 1) := o3 hcX3_start rfl
theorem dX3_start_16 : decode cX3_start 16 = .ok (.istore_n 2, 1) := o61 hcX3_start rfl
theorem dX3_start_17 : decode cX3_start 17 = .ok (.iload_n 2, 1) := o28 hcX3_start rfl
theorem dX3_start_18 : decode cX3_start 18 = .ok (.bipush 6, 2) := o16 hcX3_start (a := 6) rfl rfl
theorem dX3_start_20 : decode cX3_start 20 = .ok (.if_icmp .ge 50, 3) := o162 hcX3_start (a := 50) rfl rfl
theorem dX3_start_23 : decode cX3_start 23 = .ok (.aload_n 0, 1) := o42 hcX3_start rfl
theorem dX3_start_24 : decode cX3_start 24 = .ok (.getfield 18, 3) := o180 hcX3_start rfl
theorem dX3_start_27 : decode cX3_start 27 = .ok (.aload_n 0, 1) := o42 hcX3_start rfl
theorem dX3_start_28 : decode cX3_start 28 = .ok (.getfield 15, 3) := o180 hcX3_start rfl
theorem dX3_start_31 : decode cX3_start 31 = .ok (.arraylength, 1) := o190 hcX3_start rfl
theorem dX3_start_32 : decode cX3_start 32 = .ok (.if_icmp .ge 38, 3) := o162 hcX3_start (a := 38) rfl rfl
theorem dX3_start_35 : decode cX3_start 35 = .ok (.iload_n 1, 1) := o27 hcX3_start rfl
theorem dX3_start_36 : decode cX3_start 36 = .ok (.iload_n 2, 1) := o28 hcX3_start rfl
theorem dX3_start_37 : decode cX3_start 37 = .ok (.invokestatic 28, 3) := o184 hcX3_start rfl
theorem dX3_start_40 : decode cX3_start 40 = .ok (.iconst 1, 1) := o4 hcX3_start rfl
theorem dX3_start_41 : decode cX3_start 41 = .ok (.if_icmp .ne 23, 3) := o160 hcX3_start (a := 23) rfl rfl
theorem dX3_start_44 : decode cX3_start 44 = .ok (.aload_n 0, 1) := o42 hcX3_start rfl
theorem dX3_start_45 : decode cX3_start 45 = .ok (.getfield 15, 3) := o180 hcX3_start rfl
theorem dX3_start_48 : decode cX3_start 48 = .ok (.aload_n 0, 1) := o42 hcX3_start rfl
theorem dX3_start_49 : decode cX3_start 49 = .ok (.getfield 18, 3) := o180 hcX3_start rfl
theorem dX3_start_52 : decode cX3_start 52 = .ok (.iload_n 2, 1) := o28 hcX3_start rfl
theorem dX3_start_53 : decode cX3_start 53 = .ok (.iastore, 1) := o79 hcX3_start rfl
theorem dX3_start_54 : decode cX3_start 54 = .ok (.aload_n 0, 1) := o42 hcX3_start rfl
theorem dX3_start_55 : decode cX3_start 55 = .ok (.dup, 1) := o89 hcX3_start rfl
theorem dX3_start_56 : decode cX3_start 56 = .ok (.getfield 18, 3) := o180 hcX3_start rfl
theorem dX3_start_59 : decode cX3_start 59 = .ok (.iconst 1, 1) := o4 hcX3_start rfl
theorem dX3_start_60 : decode cX3_start 60 = .ok (.iadd, 1) := o96 hcX3_start rfl
theorem dX3_start_61 : decode cX3_start 61 = .ok (.putfield 18, 3) := o181 hcX3_start rfl
theorem dX3_start_64 : decode cX3_start 64 = .ok (.iinc 2 1, 3) := o132 hcX3_start (b := 1) rfl rfl
theorem dX3_start_67 : decode cX3_start 67 = .ok (.goto (-50), 3) := o167 hcX3_start (a := 65486) rfl rfl
theorem dX3_start_70 : decode cX3_start 70 = .ok (.return_, 1) := o177 hcX3_start rfl
theorem dX3_weigh_0 : decode cX3_weigh 0 = .ok (.iload_n 1, 1) := o27 hcX3_weigh rfl
theorem dX3_weigh_1 : decode cX3_weigh 1 = .ok (.aload_n 0, 1) := o42 hcX3_weigh rfl
theorem dX3_weigh_2 : decode cX3_weigh 2 = .ok (.getfield 22, 3) := o180 hcX3_weigh rfl
theorem dX3_weigh_5 : decode cX3_weigh 5 = .ok (.if_icmp .gt 19, 3) := o163 hcX3_weigh (a := 19) rfl rfl
theorem dX3_weigh_8 : decode cX3_weigh 8 = .ok (.iload_n 1, 1) := o27 hcX3_weigh rfl
theorem dX3_weigh_9 : decode cX3_weigh 9 = .ok (.aload_n 0, 1) := o42 hcX3_weigh rfl
theorem dX3_weigh_10 : decode cX3_weigh 10 = .ok (.getfield 22, 3) := o180 hcX3_weigh rfl
theorem dX3_weigh_13 : decode cX3_weigh 13 = .ok (.if_icmp .ne 38, 3) := o160 hcX3_weigh (a := 38) rfl rfl
theorem dX3_weigh_16 : decode cX3_weigh 16 = .ok (.iload_n 2, 1) := o28 hcX3_weigh rfl
theorem dX3_weigh_17 : decode cX3_weigh 17 = .ok (.aload_n 0, 1) := o42 hcX3_weigh rfl
theorem dX3_weigh_18 : decode cX3_weigh 18 = .ok (.getfield 25, 3) := o180 hcX3_weigh rfl
theorem dX3_weigh_21 : decode cX3_weigh 21 = .ok (.if_icmp .ge 30, 3) := o162 hcX3_weigh (a := 30) rfl rfl
theorem dX3_weigh_24 : decode cX3_weigh 24 = .ok (.aload_n 0, 1) := o42 hcX3_weigh rfl
theorem dX3_weigh_25 : decode cX3_weigh 25 = .ok (.iload_n 1, 1) := o27 hcX3_weigh rfl
theorem dX3_weigh_26 : decode cX3_weigh 26 = .ok (.putfield 22, 3) := o181 hcX3_weigh rfl
theorem dX3_weigh_29 : decode cX3_weigh 29 = .ok (.aload_n 0, 1) := o42 hcX3_weigh rfl
theorem dX3_weigh_30 : decode cX3_weigh 30 = .ok (.iload_n 2, 1) := o28 hcX3_weigh rfl
theorem dX3_weigh_31 : decode cX3_weigh 31 = .ok (.putfield 25, 3) := o181 hcX3_weigh rfl
theorem dX3_weigh_34 : decode cX3_weigh 34 = .ok (.aload_n 0, 1) := o42 hcX3_weigh rfl
theorem dX3_weigh_35 : decode cX3_weigh 35 = .ok (.getfield 15, 3) := o180 hcX3_weigh rfl
theorem dX3_weigh_38 : decode cX3_weigh 38 = .ok (.iconst 0, 1) := o3 hcX3_weigh rfl
theorem dX3_weigh_39 : decode cX3_weigh 39 = .ok (.aload_n 0, 1) := o42 hcX3_weigh rfl
theorem dX3_weigh_40 : decode cX3_weigh 40 = .ok (.getfield 9, 3) := o180 hcX3_weigh rfl
theorem dX3_weigh_43 : decode cX3_weigh 43 = .ok (.iconst 0, 1) := o3 hcX3_weigh rfl
theorem dX3_weigh_44 : decode cX3_weigh 44 = .ok (.aload_n 0, 1) := o42 hcX3_weigh rfl
theorem dX3_weigh_45 : decode cX3_weigh 45 = .ok (.getfield 18, 3) := o180 hcX3_weigh rfl
theorem dX3_weigh_48 : decode cX3_weigh 48 = .ok (.invokestatic 32, 3) := o184 hcX3_weigh rfl
theorem dX3_weigh_51 : decode cX3_weigh 51 = .ok (.return_, 1) := o177 hcX3_weigh rfl
theorem dX3_advance_0 : decode cX3_advance 0 = .ok (.aload_n 0, 1) := o42 hcX3_advance rfl
theorem dX3_advance_1 : decode cX3_advance 1 = .ok (.getfield 18, 3) := o180 hcX3_advance rfl
theorem dX3_advance_4 : decode cX3_advance 4 = .ok (.iconst 2, 1) := o5 hcX3_advance rfl
theorem dX3_advance_5 : decode cX3_advance 5 = .ok (.isub, 1) := o100 hcX3_advance rfl
theorem dX3_advance_6 : decode cX3_advance 6 = .ok (.istore_n 1, 1) := o60 hcX3_advance rfl
theorem dX3_advance_7 : decode cX3_advance 7 = .ok (.iload_n 1, 1) := o27 hcX3_advance rfl
theorem dX3_advance_8 : decode cX3_advance 8 = .ok (.ifCond .lt 26, 3) := o155 hcX3_advance (a := 26) rfl rfl
theorem dX3_advance_11 : decode cX3_advance 11 = .ok (.aload_n 0, 1) := o42 hcX3_advance rfl
theorem dX3_advance_12 : decode cX3_advance 12 = .ok (.getfield 15, 3) := o180 hcX3_advance rfl
theorem dX3_advance_15 : decode cX3_advance 15 = .ok (.iload_n 1, 1) := o27 hcX3_advance rfl
theorem dX3_advance_16 : decode cX3_advance 16 = .ok (.iaload, 1) := o46 hcX3_advance rfl
theorem dX3_advance_17 : decode cX3_advance 17 = .ok (.aload_n 0, 1) := o42 hcX3_advance rfl
theorem dX3_advance_18 : decode cX3_advance 18 = .ok (.getfield 15, 3) := o180 hcX3_advance rfl
theorem dX3_advance_21 : decode cX3_advance 21 = .ok (.iload_n 1, 1) := o27 hcX3_advance rfl
theorem dX3_advance_22 : decode cX3_advance 22 = .ok (.iconst 1, 1) := o4 hcX3_advance rfl
theorem dX3_advance_23 : decode cX3_advance 23 = .ok (.iadd, 1) := o96 hcX3_advance rfl
theorem dX3_advance_24 : decode cX3_advance 24 = .ok (.iaload, 1) := o46 hcX3_advance rfl
theorem dX3_advance_25 : decode cX3_advance 25 = .ok (.if_icmp .le 9, 3) := o164 hcX3_advance (a := 9) rfl rfl
theorem dX3_advance_28 : decode cX3_advance 28 = .ok (.iinc 1 (-1), 3) := o132 hcX3_advance (b := 255) rfl rfl
theorem dX3_advance_31 : decode cX3_advance 31 = .ok (.goto (-24), 3) := o167 hcX3_advance (a := 65512) rfl rfl
theorem dX3_advance_34 : decode cX3_advance 34 = .ok (.iload_n 1, 1) := o27 hcX3_advance rfl
theorem dX3_advance_35 : decode cX3_advance 35 = .ok (.ifCond .ge 5, 3) := o156 hcX3_advance (a := 5) rfl rfl
theorem dX3_advance_38 : decode cX3_advance 38 = .ok (.iconst 0, 1) := o3 hcX3_advance rfl
theorem dX3_advance_39 : decode cX3_advance 39 = .ok (.ireturn, 1) := o172 hcX3_advance rfl
theorem dX3_advance_40 : decode cX3_advance 40 = .ok (.aload_n 0, 1) := o42 hcX3_advance rfl
theorem dX3_advance_41 : decode cX3_advance 41 = .ok (.getfield 18, 3) := o180 hcX3_advance rfl
theorem dX3_advance_44 : decode cX3_advance 44 = .ok (.iconst 1, 1) := o4 hcX3_advance rfl
theorem dX3_advance_45 : decode cX3_advance 45 = .ok (.isub, 1) := o100 hcX3_advance rfl
theorem dX3_advance_46 : decode cX3_advance 46 = .ok (.istore_n 2, 1) := o61 hcX3_advance rfl
theorem dX3_advance_47 : decode cX3_advance 47 = .ok (.iload_n 2, 1) := o28 hcX3_advance rfl
theorem dX3_advance_48 : decode cX3_advance 48 = .ok (.iload_n 1, 1) := o27 hcX3_advance rfl
theorem dX3_advance_49 : decode cX3_advance 49 = .ok (.if_icmp .le 24, 3) := o164 hcX3_advance (a := 24) rfl rfl
theorem dX3_advance_52 : decode cX3_advance 52 = .ok (.aload_n 0, 1) := o42 hcX3_advance rfl
theorem dX3_advance_53 : decode cX3_advance 53 = .ok (.getfield 15, 3) := o180 hcX3_advance rfl
theorem dX3_advance_56 : decode cX3_advance 56 = .ok (.iload_n 2, 1) := o28 hcX3_advance rfl
theorem dX3_advance_57 : decode cX3_advance 57 = .ok (.iaload, 1) := o46 hcX3_advance rfl
theorem dX3_advance_58 : decode cX3_advance 58 = .ok (.aload_n 0, 1) := o42 hcX3_advance rfl
theorem dX3_advance_59 : decode cX3_advance 59 = .ok (.getfield 15, 3) := o180 hcX3_advance rfl
theorem dX3_advance_62 : decode cX3_advance 62 = .ok (.iload_n 1, 1) := o27 hcX3_advance rfl
theorem dX3_advance_63 : decode cX3_advance 63 = .ok (.iaload, 1) := o46 hcX3_advance rfl
theorem dX3_advance_64 : decode cX3_advance 64 = .ok (.if_icmp .ge 9, 3) := o162 hcX3_advance (a := 9) rfl rfl
theorem dX3_advance_67 : decode cX3_advance 67 = .ok (.iinc 2 (-1), 3) := o132 hcX3_advance (b := 255) rfl rfl
theorem dX3_advance_70 : decode cX3_advance 70 = .ok (.goto (-23), 3) := o167 hcX3_advance (a := 65513) rfl rfl
theorem dX3_advance_73 : decode cX3_advance 73 = .ok (.aload_n 0, 1) := o42 hcX3_advance rfl
theorem dX3_advance_74 : decode cX3_advance 74 = .ok (.iload_n 1, 1) := o27 hcX3_advance rfl
theorem dX3_advance_75 : decode cX3_advance 75 = .ok (.iload_n 2, 1) := o28 hcX3_advance rfl
theorem dX3_advance_76 : decode cX3_advance 76 = .ok (.invokevirtual 38, 3) := o182 hcX3_advance rfl
theorem dX3_advance_79 : decode cX3_advance 79 = .ok (.iload_n 1, 1) := o27 hcX3_advance rfl
theorem dX3_advance_80 : decode cX3_advance 80 = .ok (.iconst 1, 1) := o4 hcX3_advance rfl
theorem dX3_advance_81 : decode cX3_advance 81 = .ok (.iadd, 1) := o96 hcX3_advance rfl
theorem dX3_advance_82 : decode cX3_advance 82 = .ok (.istore_n 3, 1) := o62 hcX3_advance rfl
theorem dX3_advance_83 : decode cX3_advance 83 = .ok (.aload_n 0, 1) := o42 hcX3_advance rfl
theorem dX3_advance_84 : decode cX3_advance 84 = .ok (.getfield 18, 3) := o180 hcX3_advance rfl
theorem dX3_advance_87 : decode cX3_advance 87 = .ok (.iconst 1, 1) := o4 hcX3_advance rfl
theorem dX3_advance_88 : decode cX3_advance 88 = .ok (.isub, 1) := o100 hcX3_advance rfl
theorem dX3_advance_89 : decode cX3_advance 89 = .ok (.istore 4, 2) := o54 hcX3_advance rfl
theorem dX3_advance_91 : decode cX3_advance 91 = .ok (.iload_n 3, 1) := o29 hcX3_advance rfl
theorem dX3_advance_92 : decode cX3_advance 92 = .ok (.iload 4, 2) := o21 hcX3_advance rfl
theorem dX3_advance_94 : decode cX3_advance 94 = .ok (.if_icmp .ge 19, 3) := o162 hcX3_advance (a := 19) rfl rfl
theorem dX3_advance_97 : decode cX3_advance 97 = .ok (.aload_n 0, 1) := o42 hcX3_advance rfl
theorem dX3_advance_98 : decode cX3_advance 98 = .ok (.iload_n 3, 1) := o29 hcX3_advance rfl
theorem dX3_advance_99 : decode cX3_advance 99 = .ok (.iload 4, 2) := o21 hcX3_advance rfl
theorem dX3_advance_101 : decode cX3_advance 101 = .ok (.invokevirtual 38, 3) := o182 hcX3_advance rfl
theorem dX3_advance_104 : decode cX3_advance 104 = .ok (.iinc 3 1, 3) := o132 hcX3_advance (b := 1) rfl rfl
theorem dX3_advance_107 : decode cX3_advance 107 = .ok (.iinc 4 (-1), 3) := o132 hcX3_advance (b := 255) rfl rfl
theorem dX3_advance_110 : decode cX3_advance 110 = .ok (.goto (-19), 3) := o167 hcX3_advance (a := 65517) rfl rfl
theorem dX3_advance_113 : decode cX3_advance 113 = .ok (.iconst 1, 1) := o4 hcX3_advance rfl
theorem dX3_advance_114 : decode cX3_advance 114 = .ok (.ireturn, 1) := o172 hcX3_advance rfl
theorem dX3_swap_0 : decode cX3_swap 0 = .ok (.aload_n 0, 1) := o42 hcX3_swap rfl
theorem dX3_swap_1 : decode cX3_swap 1 = .ok (.getfield 15, 3) := o180 hcX3_swap rfl
theorem dX3_swap_4 : decode cX3_swap 4 = .ok (.iload_n 1, 1) := o27 hcX3_swap rfl
theorem dX3_swap_5 : decode cX3_swap 5 = .ok (.iaload, 1) := o46 hcX3_swap rfl
theorem dX3_swap_6 : decode cX3_swap 6 = .ok (.istore_n 3, 1) := o62 hcX3_swap rfl
theorem dX3_swap_7 : decode cX3_swap 7 = .ok (.aload_n 0, 1) := o42 hcX3_swap rfl
theorem dX3_swap_8 : decode cX3_swap 8 = .ok (.getfield 15, 3) := o180 hcX3_swap rfl
theorem dX3_swap_11 : decode cX3_swap 11 = .ok (.iload_n 1, 1) := o27 hcX3_swap rfl
theorem dX3_swap_12 : decode cX3_swap 12 = .ok (.aload_n 0, 1) := o42 hcX3_swap rfl
theorem dX3_swap_13 : decode cX3_swap 13 = .ok (.getfield 15, 3) := o180 hcX3_swap rfl
theorem dX3_swap_16 : decode cX3_swap 16 = .ok (.iload_n 2, 1) := o28 hcX3_swap rfl
theorem dX3_swap_17 : decode cX3_swap 17 = .ok (.iaload, 1) := o46 hcX3_swap rfl
theorem dX3_swap_18 : decode cX3_swap 18 = .ok (.iastore, 1) := o79 hcX3_swap rfl
theorem dX3_swap_19 : decode cX3_swap 19 = .ok (.aload_n 0, 1) := o42 hcX3_swap rfl
theorem dX3_swap_20 : decode cX3_swap 20 = .ok (.getfield 15, 3) := o180 hcX3_swap rfl
theorem dX3_swap_23 : decode cX3_swap 23 = .ok (.iload_n 2, 1) := o28 hcX3_swap rfl
theorem dX3_swap_24 : decode cX3_swap 24 = .ok (.iload_n 3, 1) := o29 hcX3_swap rfl
theorem dX3_swap_25 : decode cX3_swap 25 = .ok (.iastore, 1) := o79 hcX3_swap rfl
theorem dX3_swap_26 : decode cX3_swap 26 = .ok (.return_, 1) := o177 hcX3_swap rfl
theorem dX4_init_0 : decode cX4_init 0 = .ok (.aload_n 0, 1) := o42 hcX4_init rfl
theorem dX4_init_1 : decode cX4_init 1 = .ok (.invokespecial 3, 3) := o183 hcX4_init rfl
theorem dX4_init_4 : decode cX4_init 4 = .ok (.iload_n 1, 1) := o27 hcX4_init rfl
theorem dX4_init_5 : decode cX4_init 5 = .ok (.iconst 0, 1) := o3 hcX4_init rfl
theorem dX4_init_6 : decode cX4_init 6 = .ok (.invokestatic 9, 3) := o184 hcX4_init rfl
theorem dX4_init_9 : decode cX4_init 9 = .ok (.istore_n 2, 1) := o61 hcX4_init rfl
theorem dX4_init_10 : decode cX4_init 10 = .ok (.aload_n 0, 1) := o42 hcX4_init rfl
theorem dX4_init_11 : decode cX4_init 11 = .ok (.iload_n 2, 1) := o28 hcX4_init rfl
theorem dX4_init_12 : decode cX4_init 12 = .ok (.newarray .int, 2) := by decide +kernel
theorem dX4_init_14 : decode cX4_init 14 = .ok (.putfield 15, 3) := o181 hcX4_init rfl
theorem dX4_init_17 : decode cX4_init 17 = .ok (.aload_n 0, 1) := o42 hcX4_init rfl
theorem dX4_init_18 : decode cX4_init 18 = .ok (.iload_n 2, 1) := o28 hcX4_init rfl
theorem dX4_init_19 : decode cX4_init 19 = .ok (.newarray .int, 2) := by decide +kernel
theorem dX4_init_21 : decode cX4_init 21 = .ok (.putfield 21, 3) := o181 hcX4_init rfl
theorem dX4_init_24 : decode cX4_init 24 = .ok (.return_, 1) := o177 hcX4_init rfl
theorem dX4_add_0 : decode cX4_add 0 = .ok (.aload_n 0, 1) := o42 hcX4_add rfl
theorem dX4_add_1 : decode cX4_add 1 = .ok (.getfield 24, 3) := o180 hcX4_add rfl
theorem dX4_add_4 : decode cX4_add 4 = .ok (.aload_n 0, 1) := o42 hcX4_add rfl
theorem dX4_add_5 : decode cX4_add 5 = .ok (.getfield 15, 3) := o180 hcX4_add rfl
theorem dX4_add_8 : decode cX4_add 8 = .ok (.arraylength, 1) := o190 hcX4_add rfl
theorem dX4_add_9 : decode cX4_add 9 = .ok (.if_icmp .lt 6, 3) := o161 hcX4_add (a := 6) rfl rfl
theorem dX4_add_12 : decode cX4_add 12 = .ok (.bipush (-4), 2) := o16 hcX4_add (a := 252) rfl rfl
theorem dX4_add_14 : decode cX4_add 14 = .ok (.ireturn, 1) := o172 hcX4_add rfl
theorem dX4_add_15 : decode cX4_add 15 = .ok (.aload_n 0, 1) := o42 hcX4_add rfl
theorem dX4_add_16 : decode cX4_add 16 = .ok (.getfield 15, 3) := o180 hcX4_add rfl
theorem dX4_add_19 : decode cX4_add 19 = .ok (.aload_n 0, 1) := o42 hcX4_add rfl
theorem dX4_add_20 : decode cX4_add 20 = .ok (.getfield 24, 3) := o180 hcX4_add rfl
theorem dX4_add_23 : decode cX4_add 23 = .ok (.iload_n 1, 1) := o27 hcX4_add rfl
theorem dX4_add_24 : decode cX4_add 24 = .ok (.iastore, 1) := o79 hcX4_add rfl
theorem dX4_add_25 : decode cX4_add 25 = .ok (.aload_n 0, 1) := o42 hcX4_add rfl
theorem dX4_add_26 : decode cX4_add 26 = .ok (.getfield 21, 3) := o180 hcX4_add rfl
theorem dX4_add_29 : decode cX4_add 29 = .ok (.aload_n 0, 1) := o42 hcX4_add rfl
theorem dX4_add_30 : decode cX4_add 30 = .ok (.getfield 24, 3) := o180 hcX4_add rfl
theorem dX4_add_33 : decode cX4_add 33 = .ok (.iload_n 2, 1) := o28 hcX4_add rfl
theorem dX4_add_34 : decode cX4_add 34 = .ok (.iastore, 1) := o79 hcX4_add rfl
theorem dX4_add_35 : decode cX4_add 35 = .ok (.aload_n 0, 1) := o42 hcX4_add rfl
theorem dX4_add_36 : decode cX4_add 36 = .ok (.dup, 1) := o89 hcX4_add rfl
theorem dX4_add_37 : decode cX4_add 37 = .ok (.getfield 24, 3) := o180 hcX4_add rfl
theorem dX4_add_40 : decode cX4_add 40 = .ok (.iconst 1, 1) := o4 hcX4_add rfl
theorem dX4_add_41 : decode cX4_add 41 = .ok (.iadd, 1) := o96 hcX4_add rfl
theorem dX4_add_42 : decode cX4_add 42 = .ok (.putfield 24, 3) := o181 hcX4_add rfl
theorem dX4_add_45 : decode cX4_add 45 = .ok (.aload_n 0, 1) := o42 hcX4_add rfl
theorem dX4_add_46 : decode cX4_add 46 = .ok (.getfield 24, 3) := o180 hcX4_add rfl
theorem dX4_add_49 : decode cX4_add 49 = .ok (.ireturn, 1) := o172 hcX4_add rfl
theorem dX4_empty_0 : decode cX4_empty 0 = .ok (.aload_n 0, 1) := o42 hcX4_empty rfl
theorem dX4_empty_1 : decode cX4_empty 1 = .ok (.iconst 0, 1) := o3 hcX4_empty rfl
theorem dX4_empty_2 : decode cX4_empty 2 = .ok (.putfield 24, 3) := o181 hcX4_empty rfl
theorem dX4_empty_5 : decode cX4_empty 5 = .ok (.aload_n 0, 1) := o42 hcX4_empty rfl
theorem dX4_empty_6 : decode cX4_empty 6 = .ok (.getfield 24, 3) := o180 hcX4_empty rfl
theorem dX4_empty_9 : decode cX4_empty 9 = .ok (.ireturn, 1) := o172 hcX4_empty rfl
theorem dX4_copy_0 : decode cX4_copy 0 = .ok (.aload_n 0, 1) := o42 hcX4_copy rfl
theorem dX4_copy_1 : decode cX4_copy 1 = .ok (.aload_n 1, 1) := o43 hcX4_copy rfl
theorem dX4_copy_2 : decode cX4_copy 2 = .ok (.getfield 24, 3) := o180 hcX4_copy rfl
theorem dX4_copy_5 : decode cX4_copy 5 = .ok (.aload_n 0, 1) := o42 hcX4_copy rfl
theorem dX4_copy_6 : decode cX4_copy 6 = .ok (.getfield 15, 3) := o180 hcX4_copy rfl
theorem dX4_copy_9 : decode cX4_copy 9 = .ok (.arraylength, 1) := o190 hcX4_copy rfl
theorem dX4_copy_10 : decode cX4_copy 10 = .ok (.invokestatic 28, 3) := o184 hcX4_copy rfl
theorem dX4_copy_13 : decode cX4_copy 13 = .ok (.putfield 24, 3) := o181 hcX4_copy rfl
theorem dX4_copy_16 : decode cX4_copy 16 = .ok (.aload_n 1, 1) := o43 hcX4_copy rfl
theorem dX4_copy_17 : decode cX4_copy 17 = .ok (.getfield 15, 3) := o180 hcX4_copy rfl
theorem dX4_copy_20 : decode cX4_copy 20 = .ok (.iconst 0, 1) := o3 hcX4_copy rfl
theorem dX4_copy_21 : decode cX4_copy 21 = .ok (.aload_n 0, 1) := o42 hcX4_copy rfl
theorem dX4_copy_22 : decode cX4_copy 22 = .ok (.getfield 15, 3) := o180 hcX4_copy rfl
theorem dX4_copy_25 : decode cX4_copy 25 = .ok (.iconst 0, 1) := o3 hcX4_copy rfl
theorem dX4_copy_26 : decode cX4_copy 26 = .ok (.aload_n 0, 1) := o42 hcX4_copy rfl
theorem dX4_copy_27 : decode cX4_copy 27 = .ok (.getfield 24, 3) := o180 hcX4_copy rfl
theorem dX4_copy_30 : decode cX4_copy 30 = .ok (.invokestatic 31, 3) := o184 hcX4_copy rfl
theorem dX4_copy_33 : decode cX4_copy 33 = .ok (.aload_n 1, 1) := o43 hcX4_copy rfl
theorem dX4_copy_34 : decode cX4_copy 34 = .ok (.getfield 21, 3) := o180 hcX4_copy rfl
theorem dX4_copy_37 : decode cX4_copy 37 = .ok (.iconst 0, 1) := o3 hcX4_copy rfl
theorem dX4_copy_38 : decode cX4_copy 38 = .ok (.aload_n 0, 1) := o42 hcX4_copy rfl
theorem dX4_copy_39 : decode cX4_copy 39 = .ok (.getfield 21, 3) := o180 hcX4_copy rfl
theorem dX4_copy_42 : decode cX4_copy 42 = .ok (.iconst 0, 1) := o3 hcX4_copy rfl
theorem dX4_copy_43 : decode cX4_copy 43 = .ok (.aload_n 0, 1) := o42 hcX4_copy rfl
theorem dX4_copy_44 : decode cX4_copy 44 = .ok (.getfield 24, 3) := o180 hcX4_copy rfl
theorem dX4_copy_47 : decode cX4_copy 47 = .ok (.invokestatic 31, 3) := o184 hcX4_copy rfl
theorem dX4_copy_50 : decode cX4_copy 50 = .ok (.return_, 1) := o177 hcX4_copy rfl
theorem dX5_init_0 : decode cX5_init 0 = .ok (.aload_n 0, 1) := o42 hcX5_init rfl
theorem dX5_init_1 : decode cX5_init 1 = .ok (.invokespecial 3, 3) := o183 hcX5_init rfl
theorem dX5_init_4 : decode cX5_init 4 = .ok (.aload_n 0, 1) := o42 hcX5_init rfl
theorem dX5_init_5 : decode cX5_init 5 = .ok (.bipush 6, 2) := o16 hcX5_init (a := 6) rfl rfl
theorem dX5_init_7 : decode cX5_init 7 = .ok (.newarray .int, 2) := by decide +kernel
theorem dX5_init_9 : decode cX5_init 9 = .ok (.putfield 9, 3) := o181 hcX5_init rfl
theorem dX5_init_12 : decode cX5_init 12 = .ok (.aload_n 0, 1) := o42 hcX5_init rfl
theorem dX5_init_13 : decode cX5_init 13 = .ok (.bipush 6, 2) := o16 hcX5_init (a := 6) rfl rfl
theorem dX5_init_15 : decode cX5_init 15 = .ok (.newarray .int, 2) := by decide +kernel
theorem dX5_init_17 : decode cX5_init 17 = .ok (.putfield 15, 3) := o181 hcX5_init rfl
theorem dX5_init_20 : decode cX5_init 20 = .ok (.aload_n 0, 1) := o42 hcX5_init rfl
theorem dX5_init_21 : decode cX5_init 21 = .ok (.bipush 6, 2) := o16 hcX5_init (a := 6) rfl rfl
theorem dX5_init_23 : decode cX5_init 23 = .ok (.newarray .int, 2) := by decide +kernel
theorem dX5_init_25 : decode cX5_init 25 = .ok (.putfield 18, 3) := o181 hcX5_init rfl
theorem dX5_init_28 : decode cX5_init 28 = .ok (.aload_n 0, 1) := o42 hcX5_init rfl
theorem dX5_init_29 : decode cX5_init 29 = .ok (.bipush 6, 2) := o16 hcX5_init (a := 6) rfl rfl
theorem dX5_init_31 : decode cX5_init 31 = .ok (.newarray .int, 2) := by decide +kernel
theorem dX5_init_33 : decode cX5_init 33 = .ok (.putfield 21, 3) := o181 hcX5_init rfl
theorem dX5_init_36 : decode cX5_init 36 = .ok (.aload_n 0, 1) := o42 hcX5_init rfl
theorem dX5_init_37 : decode cX5_init 37 = .ok (.bipush 6, 2) := o16 hcX5_init (a := 6) rfl rfl
theorem dX5_init_39 : decode cX5_init 39 = .ok (.newarray .int, 2) := by decide +kernel
theorem dX5_init_41 : decode cX5_init 41 = .ok (.putfield 24, 3) := o181 hcX5_init rfl
theorem dX5_init_44 : decode cX5_init 44 = .ok (.aload_n 0, 1) := o42 hcX5_init rfl
theorem dX5_init_45 : decode cX5_init 45 = .ok (.iconst 4, 1) := o7 hcX5_init rfl
theorem dX5_init_46 : decode cX5_init 46 = .ok (.newarray .int, 2) := by decide +kernel
theorem dX5_init_48 : decode cX5_init 48 = .ok (.putfield 27, 3) := o181 hcX5_init rfl
theorem dX5_init_51 : decode cX5_init 51 = .ok (.aload_n 0, 1) := o42 hcX5_init rfl
theorem dX5_init_52 : decode cX5_init 52 = .ok (.iconst 4, 1) := o7 hcX5_init rfl
theorem dX5_init_53 : decode cX5_init 53 = .ok (.newarray .int, 2) := by decide +kernel
theorem dX5_init_55 : decode cX5_init 55 = .ok (.putfield 30, 3) := o181 hcX5_init rfl
theorem dX5_init_58 : decode cX5_init 58 = .ok (.aload_n 0, 1) := o42 hcX5_init rfl
theorem dX5_init_59 : decode cX5_init 59 = .ok (.iconst 4, 1) := o7 hcX5_init rfl
theorem dX5_init_60 : decode cX5_init 60 = .ok (.newarray .int, 2) := by decide +kernel
theorem dX5_init_62 : decode cX5_init 62 = .ok (.putfield 33, 3) := o181 hcX5_init rfl
theorem dX5_init_65 : decode cX5_init 65 = .ok (.aload_n 0, 1) := o42 hcX5_init rfl
theorem dX5_init_66 : decode cX5_init 66 = .ok (.new 36, 3) := o187 hcX5_init rfl
theorem dX5_init_69 : decode cX5_init 69 = .ok (.dup, 1) := o89 hcX5_init rfl
theorem dX5_init_70 : decode cX5_init 70 = .ok (.bipush 8, 2) := o16 hcX5_init (a := 8) rfl rfl
theorem dX5_init_72 : decode cX5_init 72 = .ok (.invokespecial 38, 3) := o183 hcX5_init rfl
theorem dX5_init_75 : decode cX5_init 75 = .ok (.putfield 41, 3) := o181 hcX5_init rfl
theorem dX5_init_78 : decode cX5_init 78 = .ok (.aload_n 0, 1) := o42 hcX5_init rfl
theorem dX5_init_79 : decode cX5_init 79 = .ok (.new 36, 3) := o187 hcX5_init rfl
theorem dX5_init_82 : decode cX5_init 82 = .ok (.dup, 1) := o89 hcX5_init rfl
theorem dX5_init_83 : decode cX5_init 83 = .ok (.bipush 8, 2) := o16 hcX5_init (a := 8) rfl rfl
theorem dX5_init_85 : decode cX5_init 85 = .ok (.invokespecial 38, 3) := o183 hcX5_init rfl
theorem dX5_init_88 : decode cX5_init 88 = .ok (.putfield 45, 3) := o181 hcX5_init rfl
theorem dX5_init_91 : decode cX5_init 91 = .ok (.aload_n 0, 1) := o42 hcX5_init rfl
theorem dX5_init_92 : decode cX5_init 92 = .ok (.new 36, 3) := o187 hcX5_init rfl
theorem dX5_init_95 : decode cX5_init 95 = .ok (.dup, 1) := o89 hcX5_init rfl
theorem dX5_init_96 : decode cX5_init 96 = .ok (.bipush 12, 2) := o16 hcX5_init (a := 12) rfl rfl
theorem dX5_init_98 : decode cX5_init 98 = .ok (.invokespecial 38, 3) := o183 hcX5_init rfl
theorem dX5_init_101 : decode cX5_init 101 = .ok (.putfield 48, 3) := o181 hcX5_init rfl
theorem dX5_init_104 : decode cX5_init 104 = .ok (.aload_n 0, 1) := o42 hcX5_init rfl
theorem dX5_init_105 : decode cX5_init 105 = .ok (.iconst (-1), 1) := o2 hcX5_init rfl
theorem dX5_init_106 : decode cX5_init 106 = .ok (.putfield 51, 3) := o181 hcX5_init rfl
theorem dX5_init_109 : decode cX5_init 109 = .ok (.return_, 1) := o177 hcX5_init rfl
theorem dX5_hasHouse_0 : decode cX5_hasHouse 0 = .ok (.iload_n 1, 1) := o27 hcX5_hasHouse rfl
theorem dX5_hasHouse_1 : decode cX5_hasHouse 1 = .ok (.ifCond .lt 15, 3) := o155 hcX5_hasHouse (a := 15) rfl rfl
theorem dX5_hasHouse_4 : decode cX5_hasHouse 4 = .ok (.iload_n 1, 1) := o27 hcX5_hasHouse rfl
theorem dX5_hasHouse_5 : decode cX5_hasHouse 5 = .ok (.aload_n 0, 1) := o42 hcX5_hasHouse rfl
theorem dX5_hasHouse_6 : decode cX5_hasHouse 6 = .ok (.getfield 55, 3) := o180 hcX5_hasHouse rfl
theorem dX5_hasHouse_9 : decode cX5_hasHouse 9 = .ok (.if_icmp .ge 7, 3) := o162 hcX5_hasHouse (a := 7) rfl rfl
theorem dX5_hasHouse_12 : decode cX5_hasHouse 12 = .ok (.iconst 1, 1) := o4 hcX5_hasHouse rfl
theorem dX5_hasHouse_13 : decode cX5_hasHouse 13 = .ok (.goto 4, 3) := o167 hcX5_hasHouse (a := 4) rfl rfl
theorem dX5_hasHouse_16 : decode cX5_hasHouse 16 = .ok (.iconst 0, 1) := o3 hcX5_hasHouse rfl
theorem dX5_hasHouse_17 : decode cX5_hasHouse 17 = .ok (.ireturn, 1) := o172 hcX5_hasHouse rfl
theorem dX5_hasFolk_0 : decode cX5_hasFolk 0 = .ok (.iload_n 1, 1) := o27 hcX5_hasFolk rfl
theorem dX5_hasFolk_1 : decode cX5_hasFolk 1 = .ok (.ifCond .lt 15, 3) := o155 hcX5_hasFolk (a := 15) rfl rfl
theorem dX5_hasFolk_4 : decode cX5_hasFolk 4 = .ok (.iload_n 1, 1) := o27 hcX5_hasFolk rfl
theorem dX5_hasFolk_5 : decode cX5_hasFolk 5 = .ok (.aload_n 0, 1) := o42 hcX5_hasFolk rfl
theorem dX5_hasFolk_6 : decode cX5_hasFolk 6 = .ok (.getfield 58, 3) := o180 hcX5_hasFolk rfl
theorem dX5_hasFolk_9 : decode cX5_hasFolk 9 = .ok (.if_icmp .ge 7, 3) := o162 hcX5_hasFolk (a := 7) rfl rfl
theorem dX5_hasFolk_12 : decode cX5_hasFolk 12 = .ok (.iconst 1, 1) := o4 hcX5_hasFolk rfl
theorem dX5_hasFolk_13 : decode cX5_hasFolk 13 = .ok (.goto 4, 3) := o167 hcX5_hasFolk (a := 4) rfl rfl
theorem dX5_hasFolk_16 : decode cX5_hasFolk 16 = .ok (.iconst 0, 1) := o3 hcX5_hasFolk rfl
theorem dX5_hasFolk_17 : decode cX5_hasFolk 17 = .ok (.ireturn, 1) := o172 hcX5_hasFolk rfl
theorem dX5_build_0 : decode cX5_build 0 = .ok (.aload_n 0, 1) := o42 hcX5_build rfl
theorem dX5_build_1 : decode cX5_build 1 = .ok (.getfield 55, 3) := o180 hcX5_build rfl
theorem dX5_build_4 : decode cX5_build 4 = .ok (.bipush 6, 2) := o16 hcX5_build (a := 6) rfl rfl
theorem dX5_build_6 : decode cX5_build 6 = .ok (.if_icmp .lt 6, 3) := o161 hcX5_build (a := 6) rfl rfl
theorem dX5_build_9 : decode cX5_build 9 = .ok (.bipush (-4), 2) := o16 hcX5_build (a := 252) rfl rfl
theorem dX5_build_11 : decode cX5_build 11 = .ok (.ireturn, 1) := o172 hcX5_build rfl
theorem dX5_build_12 : decode cX5_build 12 = .ok (.aload_n 0, 1) := o42 hcX5_build rfl
theorem dX5_build_13 : decode cX5_build 13 = .ok (.getfield 55, 3) := o180 hcX5_build rfl
theorem dX5_build_16 : decode cX5_build 16 = .ok (.istore 4, 2) := o54 hcX5_build rfl
theorem dX5_build_18 : decode cX5_build 18 = .ok (.aload_n 0, 1) := o42 hcX5_build rfl
theorem dX5_build_19 : decode cX5_build 19 = .ok (.dup, 1) := o89 hcX5_build rfl
theorem dX5_build_20 : decode cX5_build 20 = .ok (.getfield 55, 3) := o180 hcX5_build rfl
theorem dX5_build_23 : decode cX5_build 23 = .ok (.iconst 1, 1) := o4 hcX5_build rfl
theorem dX5_build_24 : decode cX5_build 24 = .ok (.iadd, 1) := o96 hcX5_build rfl
theorem dX5_build_25 : decode cX5_build 25 = .ok (.putfield 55, 3) := o181 hcX5_build rfl
theorem dX5_build_28 : decode cX5_build 28 = .ok (.aload_n 0, 1) := o42 hcX5_build rfl
theorem dX5_build_29 : decode cX5_build 29 = .ok (.iload 4, 2) := o21 hcX5_build rfl
theorem dX5_build_31 : decode cX5_build 31 = .ok (.iload_n 1, 1) := o27 hcX5_build rfl
theorem dX5_build_32 : decode cX5_build 32 = .ok (.iload_n 2, 1) := o28 hcX5_build rfl
theorem dX5_build_33 : decode cX5_build 33 = .ok (.invokevirtual 61, 3) := o182 hcX5_build rfl
theorem dX5_build_36 : decode cX5_build 36 = .ok (.aload_n 0, 1) := o42 hcX5_build rfl
theorem dX5_build_37 : decode cX5_build 37 = .ok (.getfield 18, 3) := o180 hcX5_build rfl
theorem dX5_build_40 : decode cX5_build 40 = .ok (.iload 4, 2) := o21 hcX5_build rfl
theorem dX5_build_42 : decode cX5_build 42 = .ok (.iload_n 3, 1) := o29 hcX5_build rfl
theorem dX5_build_43 : decode cX5_build 43 = .ok (.iastore, 1) := o79 hcX5_build rfl
theorem dX5_build_44 : decode cX5_build 44 = .ok (.aload_n 0, 1) := o42 hcX5_build rfl
theorem dX5_build_45 : decode cX5_build 45 = .ok (.getfield 21, 3) := o180 hcX5_build rfl
theorem dX5_build_48 : decode cX5_build 48 = .ok (.iload 4, 2) := o21 hcX5_build rfl
theorem dX5_build_50 : decode cX5_build 50 = .ok (.iconst 0, 1) := o3 hcX5_build rfl
theorem dX5_build_51 : decode cX5_build 51 = .ok (.iastore, 1) := o79 hcX5_build rfl
theorem dX5_build_52 : decode cX5_build 52 = .ok (.iload 4, 2) := o21 hcX5_build rfl
theorem dX5_build_54 : decode cX5_build 54 = .ok (.ireturn, 1) := o172 hcX5_build rfl
theorem dX5_settle_0 : decode cX5_settle 0 = .ok (.aload_n 0, 1) := o42 hcX5_settle rfl
theorem dX5_settle_1 : decode cX5_settle 1 = .ok (.getfield 9, 3) := o180 hcX5_settle rfl
theorem dX5_settle_4 : decode cX5_settle 4 = .ok (.iload_n 1, 1) := o27 hcX5_settle rfl
theorem dX5_settle_5 : decode cX5_settle 5 = .ok (.iload_n 2, 1) := o28 hcX5_settle rfl
theorem dX5_settle_6 : decode cX5_settle 6 = .ok (.iastore, 1) := o79 hcX5_settle rfl
theorem dX5_settle_7 : decode cX5_settle 7 = .ok (.aload_n 0, 1) := o42 hcX5_settle rfl
theorem dX5_settle_8 : decode cX5_settle 8 = .ok (.getfield 15, 3) := o180 hcX5_settle rfl
theorem dX5_settle_11 : decode cX5_settle 11 = .ok (.iload_n 1, 1) := o27 hcX5_settle rfl
theorem dX5_settle_12 : decode cX5_settle 12 = .ok (.iload_n 3, 1) := o29 hcX5_settle rfl
theorem dX5_settle_13 : decode cX5_settle 13 = .ok (.iastore, 1) := o79 hcX5_settle rfl
theorem dX5_settle_14 : decode cX5_settle 14 = .ok (.aload_n 0, 1) := o42 hcX5_settle rfl
theorem dX5_settle_15 : decode cX5_settle 15 = .ok (.getfield 24, 3) := o180 hcX5_settle rfl
theorem dX5_settle_18 : decode cX5_settle 18 = .ok (.iload_n 1, 1) := o27 hcX5_settle rfl
theorem dX5_settle_19 : decode cX5_settle 19 = .ok (.bipush 15, 2) := o16 hcX5_settle (a := 15) rfl rfl
theorem dX5_settle_21 : decode cX5_settle 21 = .ok (.iastore, 1) := o79 hcX5_settle rfl
theorem dX5_settle_22 : decode cX5_settle 22 = .ok (.return_, 1) := o177 hcX5_settle rfl
theorem dX5_wake_0 : decode cX5_wake 0 = .ok (.aload_n 0, 1) := o42 hcX5_wake rfl
theorem dX5_wake_1 : decode cX5_wake 1 = .ok (.getfield 58, 3) := o180 hcX5_wake rfl
theorem dX5_wake_4 : decode cX5_wake 4 = .ok (.iconst 4, 1) := o7 hcX5_wake rfl
theorem dX5_wake_5 : decode cX5_wake 5 = .ok (.if_icmp .lt 6, 3) := o161 hcX5_wake (a := 6) rfl rfl
theorem dX5_wake_8 : decode cX5_wake 8 = .ok (.bipush (-4), 2) := o16 hcX5_wake (a := 252) rfl rfl
theorem dX5_wake_10 : decode cX5_wake 10 = .ok (.ireturn, 1) := o172 hcX5_wake rfl
theorem dX5_wake_11 : decode cX5_wake 11 = .ok (.aload_n 0, 1) := o42 hcX5_wake rfl
theorem dX5_wake_12 : decode cX5_wake 12 = .ok (.getfield 58, 3) := o180 hcX5_wake rfl
theorem dX5_wake_15 : decode cX5_wake 15 = .ok (.istore 4, 2) := o54 hcX5_wake rfl
theorem dX5_wake_17 : decode cX5_wake 17 = .ok (.aload_n 0, 1) := o42 hcX5_wake rfl
theorem dX5_wake_18 : decode cX5_wake 18 = .ok (.dup, 1) := o89 hcX5_wake rfl
theorem dX5_wake_19 : decode cX5_wake 19 = .ok (.getfield 58, 3) := o180 hcX5_wake rfl
theorem dX5_wake_22 : decode cX5_wake 22 = .ok (.iconst 1, 1) := o4 hcX5_wake rfl
theorem dX5_wake_23 : decode cX5_wake 23 = .ok (.iadd, 1) := o96 hcX5_wake rfl
theorem dX5_wake_24 : decode cX5_wake 24 = .ok (.putfield 58, 3) := o181 hcX5_wake rfl
theorem dX5_wake_27 : decode cX5_wake 27 = .ok (.aload_n 0, 1) := o42 hcX5_wake rfl
theorem dX5_wake_28 : decode cX5_wake 28 = .ok (.getfield 27, 3) := o180 hcX5_wake rfl
theorem dX5_wake_31 : decode cX5_wake 31 = .ok (.iload 4, 2) := o21 hcX5_wake rfl
theorem dX5_wake_33 : decode cX5_wake 33 = .ok (.iload_n 1, 1) := o27 hcX5_wake rfl
theorem dX5_wake_34 : decode cX5_wake 34 = .ok (.iastore, 1) := o79 hcX5_wake rfl
theorem dX5_wake_35 : decode cX5_wake 35 = .ok (.aload_n 0, 1) := o42 hcX5_wake rfl
theorem dX5_wake_36 : decode cX5_wake 36 = .ok (.getfield 30, 3) := o180 hcX5_wake rfl
theorem dX5_wake_39 : decode cX5_wake 39 = .ok (.iload 4, 2) := o21 hcX5_wake rfl
theorem dX5_wake_41 : decode cX5_wake 41 = .ok (.iload_n 2, 1) := o28 hcX5_wake rfl
theorem dX5_wake_42 : decode cX5_wake 42 = .ok (.iastore, 1) := o79 hcX5_wake rfl
theorem dX5_wake_43 : decode cX5_wake 43 = .ok (.aload_n 0, 1) := o42 hcX5_wake rfl
theorem dX5_wake_44 : decode cX5_wake 44 = .ok (.getfield 33, 3) := o180 hcX5_wake rfl
theorem dX5_wake_47 : decode cX5_wake 47 = .ok (.iload 4, 2) := o21 hcX5_wake rfl
theorem dX5_wake_49 : decode cX5_wake 49 = .ok (.iload_n 3, 1) := o29 hcX5_wake rfl
theorem dX5_wake_50 : decode cX5_wake 50 = .ok (.iastore, 1) := o79 hcX5_wake rfl
theorem dX5_wake_51 : decode cX5_wake 51 = .ok (.iload 4, 2) := o21 hcX5_wake rfl
theorem dX5_wake_53 : decode cX5_wake 53 = .ok (.ireturn, 1) := o172 hcX5_wake rfl
theorem dX5_copy_0 : decode cX5_copy 0 = .ok (.aload_n 0, 1) := o42 hcX5_copy rfl
theorem dX5_copy_1 : decode cX5_copy 1 = .ok (.aload_n 1, 1) := o43 hcX5_copy rfl
theorem dX5_copy_2 : decode cX5_copy 2 = .ok (.getfield 55, 3) := o180 hcX5_copy rfl
theorem dX5_copy_5 : decode cX5_copy 5 = .ok (.putfield 55, 3) := o181 hcX5_copy rfl
theorem dX5_copy_8 : decode cX5_copy 8 = .ok (.aload_n 1, 1) := o43 hcX5_copy rfl
theorem dX5_copy_9 : decode cX5_copy 9 = .ok (.getfield 9, 3) := o180 hcX5_copy rfl
theorem dX5_copy_12 : decode cX5_copy 12 = .ok (.iconst 0, 1) := o3 hcX5_copy rfl
theorem dX5_copy_13 : decode cX5_copy 13 = .ok (.aload_n 0, 1) := o42 hcX5_copy rfl
theorem dX5_copy_14 : decode cX5_copy 14 = .ok (.getfield 9, 3) := o180 hcX5_copy rfl
theorem dX5_copy_17 : decode cX5_copy 17 = .ok (.iconst 0, 1) := o3 hcX5_copy rfl
theorem dX5_copy_18 : decode cX5_copy 18 = .ok (.bipush 6, 2) := o16 hcX5_copy (a := 6) rfl rfl
theorem dX5_copy_20 : decode cX5_copy 20 = .ok (.invokestatic 65, 3) := o184 hcX5_copy rfl
theorem dX5_copy_23 : decode cX5_copy 23 = .ok (.aload_n 1, 1) := o43 hcX5_copy rfl
theorem dX5_copy_24 : decode cX5_copy 24 = .ok (.getfield 15, 3) := o180 hcX5_copy rfl
theorem dX5_copy_27 : decode cX5_copy 27 = .ok (.iconst 0, 1) := o3 hcX5_copy rfl
theorem dX5_copy_28 : decode cX5_copy 28 = .ok (.aload_n 0, 1) := o42 hcX5_copy rfl
theorem dX5_copy_29 : decode cX5_copy 29 = .ok (.getfield 15, 3) := o180 hcX5_copy rfl
theorem dX5_copy_32 : decode cX5_copy 32 = .ok (.iconst 0, 1) := o3 hcX5_copy rfl
theorem dX5_copy_33 : decode cX5_copy 33 = .ok (.bipush 6, 2) := o16 hcX5_copy (a := 6) rfl rfl
theorem dX5_copy_35 : decode cX5_copy 35 = .ok (.invokestatic 65, 3) := o184 hcX5_copy rfl
theorem dX5_copy_38 : decode cX5_copy 38 = .ok (.aload_n 1, 1) := o43 hcX5_copy rfl
theorem dX5_copy_39 : decode cX5_copy 39 = .ok (.getfield 18, 3) := o180 hcX5_copy rfl
theorem dX5_copy_42 : decode cX5_copy 42 = .ok (.iconst 0, 1) := o3 hcX5_copy rfl
theorem dX5_copy_43 : decode cX5_copy 43 = .ok (.aload_n 0, 1) := o42 hcX5_copy rfl
theorem dX5_copy_44 : decode cX5_copy 44 = .ok (.getfield 18, 3) := o180 hcX5_copy rfl
theorem dX5_copy_47 : decode cX5_copy 47 = .ok (.iconst 0, 1) := o3 hcX5_copy rfl
theorem dX5_copy_48 : decode cX5_copy 48 = .ok (.bipush 6, 2) := o16 hcX5_copy (a := 6) rfl rfl
theorem dX5_copy_50 : decode cX5_copy 50 = .ok (.invokestatic 65, 3) := o184 hcX5_copy rfl
theorem dX5_copy_53 : decode cX5_copy 53 = .ok (.aload_n 1, 1) := o43 hcX5_copy rfl
theorem dX5_copy_54 : decode cX5_copy 54 = .ok (.getfield 21, 3) := o180 hcX5_copy rfl
theorem dX5_copy_57 : decode cX5_copy 57 = .ok (.iconst 0, 1) := o3 hcX5_copy rfl
theorem dX5_copy_58 : decode cX5_copy 58 = .ok (.aload_n 0, 1) := o42 hcX5_copy rfl
theorem dX5_copy_59 : decode cX5_copy 59 = .ok (.getfield 21, 3) := o180 hcX5_copy rfl
theorem dX5_copy_62 : decode cX5_copy 62 = .ok (.iconst 0, 1) := o3 hcX5_copy rfl
theorem dX5_copy_63 : decode cX5_copy 63 = .ok (.bipush 6, 2) := o16 hcX5_copy (a := 6) rfl rfl
theorem dX5_copy_65 : decode cX5_copy 65 = .ok (.invokestatic 65, 3) := o184 hcX5_copy rfl
theorem dX5_copy_68 : decode cX5_copy 68 = .ok (.aload_n 1, 1) := o43 hcX5_copy rfl
theorem dX5_copy_69 : decode cX5_copy 69 = .ok (.getfield 24, 3) := o180 hcX5_copy rfl
theorem dX5_copy_72 : decode cX5_copy 72 = .ok (.iconst 0, 1) := o3 hcX5_copy rfl
theorem dX5_copy_73 : decode cX5_copy 73 = .ok (.aload_n 0, 1) := o42 hcX5_copy rfl
theorem dX5_copy_74 : decode cX5_copy 74 = .ok (.getfield 24, 3) := o180 hcX5_copy rfl
theorem dX5_copy_77 : decode cX5_copy 77 = .ok (.iconst 0, 1) := o3 hcX5_copy rfl
theorem dX5_copy_78 : decode cX5_copy 78 = .ok (.bipush 6, 2) := o16 hcX5_copy (a := 6) rfl rfl
theorem dX5_copy_80 : decode cX5_copy 80 = .ok (.invokestatic 65, 3) := o184 hcX5_copy rfl
theorem dX5_copy_83 : decode cX5_copy 83 = .ok (.aload_n 0, 1) := o42 hcX5_copy rfl
theorem dX5_copy_84 : decode cX5_copy 84 = .ok (.aload_n 1, 1) := o43 hcX5_copy rfl
theorem dX5_copy_85 : decode cX5_copy 85 = .ok (.getfield 58, 3) := o180 hcX5_copy rfl
theorem dX5_copy_88 : decode cX5_copy 88 = .ok (.putfield 58, 3) := o181 hcX5_copy rfl
theorem dX5_copy_91 : decode cX5_copy 91 = .ok (.aload_n 1, 1) := o43 hcX5_copy rfl
theorem dX5_copy_92 : decode cX5_copy 92 = .ok (.getfield 27, 3) := o180 hcX5_copy rfl
theorem dX5_copy_95 : decode cX5_copy 95 = .ok (.iconst 0, 1) := o3 hcX5_copy rfl
theorem dX5_copy_96 : decode cX5_copy 96 = .ok (.aload_n 0, 1) := o42 hcX5_copy rfl
theorem dX5_copy_97 : decode cX5_copy 97 = .ok (.getfield 27, 3) := o180 hcX5_copy rfl
theorem dX5_copy_100 : decode cX5_copy 100 = .ok (.iconst 0, 1) := o3 hcX5_copy rfl
theorem dX5_copy_101 : decode cX5_copy 101 = .ok (.iconst 4, 1) := o7 hcX5_copy rfl
theorem dX5_copy_102 : decode cX5_copy 102 = .ok (.invokestatic 65, 3) := o184 hcX5_copy rfl
theorem dX5_copy_105 : decode cX5_copy 105 = .ok (.aload_n 1, 1) := o43 hcX5_copy rfl
theorem dX5_copy_106 : decode cX5_copy 106 = .ok (.getfield 30, 3) := o180 hcX5_copy rfl
theorem dX5_copy_109 : decode cX5_copy 109 = .ok (.iconst 0, 1) := o3 hcX5_copy rfl
theorem dX5_copy_110 : decode cX5_copy 110 = .ok (.aload_n 0, 1) := o42 hcX5_copy rfl
theorem dX5_copy_111 : decode cX5_copy 111 = .ok (.getfield 30, 3) := o180 hcX5_copy rfl
theorem dX5_copy_114 : decode cX5_copy 114 = .ok (.iconst 0, 1) := o3 hcX5_copy rfl
theorem dX5_copy_115 : decode cX5_copy 115 = .ok (.iconst 4, 1) := o7 hcX5_copy rfl
theorem dX5_copy_116 : decode cX5_copy 116 = .ok (.invokestatic 65, 3) := o184 hcX5_copy rfl
theorem dX5_copy_119 : decode cX5_copy 119 = .ok (.aload_n 1, 1) := o43 hcX5_copy rfl
theorem dX5_copy_120 : decode cX5_copy 120 = .ok (.getfield 33, 3) := o180 hcX5_copy rfl
theorem dX5_copy_123 : decode cX5_copy 123 = .ok (.iconst 0, 1) := o3 hcX5_copy rfl
theorem dX5_copy_124 : decode cX5_copy 124 = .ok (.aload_n 0, 1) := o42 hcX5_copy rfl
theorem dX5_copy_125 : decode cX5_copy 125 = .ok (.getfield 33, 3) := o180 hcX5_copy rfl
theorem dX5_copy_128 : decode cX5_copy 128 = .ok (.iconst 0, 1) := o3 hcX5_copy rfl
theorem dX5_copy_129 : decode cX5_copy 129 = .ok (.iconst 4, 1) := o7 hcX5_copy rfl
theorem dX5_copy_130 : decode cX5_copy 130 = .ok (.invokestatic 65, 3) := o184 hcX5_copy rfl
theorem dX5_copy_133 : decode cX5_copy 133 = .ok (.aload_n 0, 1) := o42 hcX5_copy rfl
theorem dX5_copy_134 : decode cX5_copy 134 = .ok (.getfield 41, 3) := o180 hcX5_copy rfl
theorem dX5_copy_137 : decode cX5_copy 137 = .ok (.aload_n 1, 1) := o43 hcX5_copy rfl
theorem dX5_copy_138 : decode cX5_copy 138 = .ok (.getfield 41, 3) := o180 hcX5_copy rfl
theorem dX5_copy_141 : decode cX5_copy 141 = .ok (.invokevirtual 71, 3) := o182 hcX5_copy rfl
theorem dX5_copy_144 : decode cX5_copy 144 = .ok (.aload_n 0, 1) := o42 hcX5_copy rfl
theorem dX5_copy_145 : decode cX5_copy 145 = .ok (.getfield 45, 3) := o180 hcX5_copy rfl
theorem dX5_copy_148 : decode cX5_copy 148 = .ok (.aload_n 1, 1) := o43 hcX5_copy rfl
theorem dX5_copy_149 : decode cX5_copy 149 = .ok (.getfield 45, 3) := o180 hcX5_copy rfl
theorem dX5_copy_152 : decode cX5_copy 152 = .ok (.invokevirtual 71, 3) := o182 hcX5_copy rfl
theorem dX5_copy_155 : decode cX5_copy 155 = .ok (.aload_n 0, 1) := o42 hcX5_copy rfl
theorem dX5_copy_156 : decode cX5_copy 156 = .ok (.getfield 48, 3) := o180 hcX5_copy rfl
theorem dX5_copy_159 : decode cX5_copy 159 = .ok (.aload_n 1, 1) := o43 hcX5_copy rfl
theorem dX5_copy_160 : decode cX5_copy 160 = .ok (.getfield 48, 3) := o180 hcX5_copy rfl
theorem dX5_copy_163 : decode cX5_copy 163 = .ok (.invokevirtual 71, 3) := o182 hcX5_copy rfl
theorem dX5_copy_166 : decode cX5_copy 166 = .ok (.aload_n 0, 1) := o42 hcX5_copy rfl
theorem dX5_copy_167 : decode cX5_copy 167 = .ok (.aload_n 1, 1) := o43 hcX5_copy rfl
theorem dX5_copy_168 : decode cX5_copy 168 = .ok (.getfield 51, 3) := o180 hcX5_copy rfl
theorem dX5_copy_171 : decode cX5_copy 171 = .ok (.putfield 51, 3) := o181 hcX5_copy rfl
theorem dX5_copy_174 : decode cX5_copy 174 = .ok (.return_, 1) := o177 hcX5_copy rfl
theorem dX6_init_0 : decode cX6_init 0 = .ok (.aload_n 0, 1) := o42 hcX6_init rfl
theorem dX6_init_1 : decode cX6_init 1 = .ok (.invokespecial 3, 3) := o183 hcX6_init rfl
theorem dX6_init_4 : decode cX6_init 4 = .ok (.aload_n 0, 1) := o42 hcX6_init rfl
theorem dX6_init_5 : decode cX6_init 5 = .ok (.bipush 6, 2) := o16 hcX6_init (a := 6) rfl rfl
theorem dX6_init_7 : decode cX6_init 7 = .ok (.bipush 60, 2) := o16 hcX6_init (a := 60) rfl rfl
theorem dX6_init_9 : decode cX6_init 9 = .ok (.multianewarray 11 2, 4) := by decide +kernel
theorem dX6_init_13 : decode cX6_init 13 = .ok (.putfield 13, 3) := o181 hcX6_init rfl
theorem dX6_init_16 : decode cX6_init 16 = .ok (.aload_n 0, 1) := o42 hcX6_init rfl
theorem dX6_init_17 : decode cX6_init 17 = .ok (.bipush 6, 2) := o16 hcX6_init (a := 6) rfl rfl
theorem dX6_init_19 : decode cX6_init 19 = .ok (.newarray .int, 2) := by decide +kernel
theorem dX6_init_21 : decode cX6_init 21 = .ok (.putfield 16, 3) := o181 hcX6_init rfl
theorem dX6_init_24 : decode cX6_init 24 = .ok (.aload_n 0, 1) := o42 hcX6_init rfl
theorem dX6_init_25 : decode cX6_init 25 = .ok (.bipush 6, 2) := o16 hcX6_init (a := 6) rfl rfl
theorem dX6_init_27 : decode cX6_init 27 = .ok (.newarray .int, 2) := by decide +kernel
theorem dX6_init_29 : decode cX6_init 29 = .ok (.dup, 1) := o89 hcX6_init rfl
theorem dX6_init_30 : decode cX6_init 30 = .ok (.iconst 0, 1) := o3 hcX6_init rfl
theorem dX6_init_31 : decode cX6_init 31 = .ok (.iconst (-1), 1) := o2 hcX6_init rfl
theorem dX6_init_32 : decode cX6_init 32 = .ok (.iastore, 1) := o79 hcX6_init rfl
theorem dX6_init_33 : decode cX6_init 33 = .ok (.dup, 1) := o89 hcX6_init rfl
theorem dX6_init_34 : decode cX6_init 34 = .ok (.iconst 1, 1) := o4 hcX6_init rfl
theorem dX6_init_35 : decode cX6_init 35 = .ok (.iconst (-1), 1) := o2 hcX6_init rfl
theorem dX6_init_36 : decode cX6_init 36 = .ok (.iastore, 1) := o79 hcX6_init rfl
theorem dX6_init_37 : decode cX6_init 37 = .ok (.dup, 1) := o89 hcX6_init rfl
theorem dX6_init_38 : decode cX6_init 38 = .ok (.iconst 2, 1) := o5 hcX6_init rfl
theorem dX6_init_39 : decode cX6_init 39 = .ok (.iconst (-1), 1) := o2 hcX6_init rfl
theorem dX6_init_40 : decode cX6_init 40 = .ok (.iastore, 1) := o79 hcX6_init rfl
theorem dX6_init_41 : decode cX6_init 41 = .ok (.dup, 1) := o89 hcX6_init rfl
theorem dX6_init_42 : decode cX6_init 42 = .ok (.iconst 3, 1) := o6 hcX6_init rfl
theorem dX6_init_43 : decode cX6_init 43 = .ok (.iconst (-1), 1) := o2 hcX6_init rfl
theorem dX6_init_44 : decode cX6_init 44 = .ok (.iastore, 1) := o79 hcX6_init rfl
theorem dX6_init_45 : decode cX6_init 45 = .ok (.dup, 1) := o89 hcX6_init rfl
theorem dX6_init_46 : decode cX6_init 46 = .ok (.iconst 4, 1) := o7 hcX6_init rfl
theorem dX6_init_47 : decode cX6_init 47 = .ok (.iconst (-1), 1) := o2 hcX6_init rfl
theorem dX6_init_48 : decode cX6_init 48 = .ok (.iastore, 1) := o79 hcX6_init rfl
theorem dX6_init_49 : decode cX6_init 49 = .ok (.dup, 1) := o89 hcX6_init rfl
theorem dX6_init_50 : decode cX6_init 50 = .ok (.iconst 5, 1) := o8 hcX6_init rfl
theorem dX6_init_51 : decode cX6_init 51 = .ok (.iconst (-1), 1) := o2 hcX6_init rfl
theorem dX6_init_52 : decode cX6_init 52 = .ok (.iastore, 1) := o79 hcX6_init rfl
theorem dX6_init_53 : decode cX6_init 53 = .ok (.putfield 20, 3) := o181 hcX6_init rfl
theorem dX6_init_56 : decode cX6_init 56 = .ok (.return_, 1) := o177 hcX6_init rfl
theorem dX6_become_0 : decode cX6_become 0 = .ok (.aload_n 0, 1) := o42 hcX6_become rfl
theorem dX6_become_1 : decode cX6_become 1 = .ok (.getfield 20, 3) := o180 hcX6_become rfl
theorem dX6_become_4 : decode cX6_become 4 = .ok (.iload_n 1, 1) := o27 hcX6_become rfl
theorem dX6_become_5 : decode cX6_become 5 = .ok (.iload_n 2, 1) := o28 hcX6_become rfl
theorem dX6_become_6 : decode cX6_become 6 = .ok (.iastore, 1) := o79 hcX6_become rfl
theorem dX6_become_7 : decode cX6_become 7 = .ok (.aload_n 0, 1) := o42 hcX6_become rfl
theorem dX6_become_8 : decode cX6_become 8 = .ok (.getfield 16, 3) := o180 hcX6_become rfl
theorem dX6_become_11 : decode cX6_become 11 = .ok (.iload_n 1, 1) := o27 hcX6_become rfl
theorem dX6_become_12 : decode cX6_become 12 = .ok (.iload_n 3, 1) := o29 hcX6_become rfl
theorem dX6_become_13 : decode cX6_become 13 = .ok (.iastore, 1) := o79 hcX6_become rfl
theorem dX6_become_14 : decode cX6_become 14 = .ok (.aload_n 0, 1) := o42 hcX6_become rfl
theorem dX6_become_15 : decode cX6_become 15 = .ok (.getfield 13, 3) := o180 hcX6_become rfl
theorem dX6_become_18 : decode cX6_become 18 = .ok (.iload_n 1, 1) := o27 hcX6_become rfl
theorem dX6_become_19 : decode cX6_become 19 = .ok (.aaload, 1) := o50 hcX6_become rfl
theorem dX6_become_20 : decode cX6_become 20 = .ok (.lconst 0, 1) := o9 hcX6_become rfl
theorem dX6_become_21 : decode cX6_become 21 = .ok (.invokestatic 23, 3) := o184 hcX6_become rfl
theorem dX6_become_24 : decode cX6_become 24 = .ok (.iconst 1, 1) := o4 hcX6_become rfl
theorem dX6_become_25 : decode cX6_become 25 = .ok (.ireturn, 1) := o172 hcX6_become rfl
theorem dX6_cut_0 : decode cX6_cut 0 = .ok (.iload_n 0, 1) := o26 hcX6_cut rfl
theorem dX6_cut_1 : decode cX6_cut 1 = .ok (.tableswitch 61 0 4 #[35, 40, 45, 61, 49], 35) := by decide +kernel
theorem dX6_cut_36 : decode cX6_cut 36 = .ok (.lload_n 1, 1) := o31 hcX6_cut rfl
theorem dX6_cut_37 : decode cX6_cut 37 = .ok (.l2i, 1) := o136 hcX6_cut rfl
theorem dX6_cut_38 : decode cX6_cut 38 = .ok (.i2b, 1) := o145 hcX6_cut rfl
theorem dX6_cut_39 : decode cX6_cut 39 = .ok (.i2l, 1) := o133 hcX6_cut rfl
theorem dX6_cut_40 : decode cX6_cut 40 = .ok (.lreturn, 1) := o173 hcX6_cut rfl
theorem dX6_cut_41 : decode cX6_cut 41 = .ok (.lload_n 1, 1) := o31 hcX6_cut rfl
theorem dX6_cut_42 : decode cX6_cut 42 = .ok (.l2i, 1) := o136 hcX6_cut rfl
theorem dX6_cut_43 : decode cX6_cut 43 = .ok (.i2s, 1) := o147 hcX6_cut rfl
theorem dX6_cut_44 : decode cX6_cut 44 = .ok (.i2l, 1) := o133 hcX6_cut rfl
theorem dX6_cut_45 : decode cX6_cut 45 = .ok (.lreturn, 1) := o173 hcX6_cut rfl
theorem dX6_cut_46 : decode cX6_cut 46 = .ok (.lload_n 1, 1) := o31 hcX6_cut rfl
theorem dX6_cut_47 : decode cX6_cut 47 = .ok (.l2i, 1) := o136 hcX6_cut rfl
theorem dX6_cut_48 : decode cX6_cut 48 = .ok (.i2l, 1) := o133 hcX6_cut rfl
theorem dX6_cut_49 : decode cX6_cut 49 = .ok (.lreturn, 1) := o173 hcX6_cut rfl
theorem dX6_cut_50 : decode cX6_cut 50 = .ok (.lload_n 1, 1) := o31 hcX6_cut rfl
theorem dX6_cut_51 : decode cX6_cut 51 = .ok (.lconst 0, 1) := o9 hcX6_cut rfl
theorem dX6_cut_52 : decode cX6_cut 52 = .ok (.lcmp, 1) := o148 hcX6_cut rfl
theorem dX6_cut_53 : decode cX6_cut 53 = .ok (.ifCond .eq 7, 3) := o153 hcX6_cut (a := 7) rfl rfl
theorem dX6_cut_56 : decode cX6_cut 56 = .ok (.lconst 1, 1) := o10 hcX6_cut rfl
theorem dX6_cut_57 : decode cX6_cut 57 = .ok (.goto 4, 3) := o167 hcX6_cut (a := 4) rfl rfl
theorem dX6_cut_60 : decode cX6_cut 60 = .ok (.lconst 0, 1) := o9 hcX6_cut rfl
theorem dX6_cut_61 : decode cX6_cut 61 = .ok (.lreturn, 1) := o173 hcX6_cut rfl
theorem dX6_cut_62 : decode cX6_cut 62 = .ok (.lload_n 1, 1) := o31 hcX6_cut rfl
theorem dX6_cut_63 : decode cX6_cut 63 = .ok (.lreturn, 1) := o173 hcX6_cut rfl
theorem dX7_init_0 : decode cX7_init 0 = .ok (.aload_n 0, 1) := o42 hcX7_init rfl
theorem dX7_init_1 : decode cX7_init 1 = .ok (.invokespecial 3, 3) := o183 hcX7_init rfl
theorem dX7_init_4 : decode cX7_init 4 = .ok (.aload_n 0, 1) := o42 hcX7_init rfl
theorem dX7_init_5 : decode cX7_init 5 = .ok (.bipush 100, 2) := o16 hcX7_init (a := 100) rfl rfl
theorem dX7_init_7 : decode cX7_init 7 = .ok (.newarray .byte, 2) := by decide +kernel
theorem dX7_init_9 : decode cX7_init 9 = .ok (.putfield 9, 3) := o181 hcX7_init rfl
theorem dX7_init_12 : decode cX7_init 12 = .ok (.aload_n 0, 1) := o42 hcX7_init rfl
theorem dX7_init_13 : decode cX7_init 13 = .ok (.iconst (-1), 1) := o2 hcX7_init rfl
theorem dX7_init_14 : decode cX7_init 14 = .ok (.putfield 15, 3) := o181 hcX7_init rfl
theorem dX7_init_17 : decode cX7_init 17 = .ok (.return_, 1) := o177 hcX7_init rfl
theorem dX7_add_0 : decode cX7_add 0 = .ok (.aload_n 0, 1) := o42 hcX7_add rfl
theorem dX7_add_1 : decode cX7_add 1 = .ok (.getfield 19, 3) := o180 hcX7_add rfl
theorem dX7_add_4 : decode cX7_add 4 = .ok (.bipush 100, 2) := o16 hcX7_add (a := 100) rfl rfl
theorem dX7_add_6 : decode cX7_add 6 = .ok (.if_icmp .lt 6, 3) := o161 hcX7_add (a := 6) rfl rfl
theorem dX7_add_9 : decode cX7_add 9 = .ok (.bipush (-4), 2) := o16 hcX7_add (a := 252) rfl rfl
theorem dX7_add_11 : decode cX7_add 11 = .ok (.ireturn, 1) := o172 hcX7_add rfl
theorem dX7_add_12 : decode cX7_add 12 = .ok (.aload_n 0, 1) := o42 hcX7_add rfl
theorem dX7_add_13 : decode cX7_add 13 = .ok (.getfield 9, 3) := o180 hcX7_add rfl
theorem dX7_add_16 : decode cX7_add 16 = .ok (.aload_n 0, 1) := o42 hcX7_add rfl
theorem dX7_add_17 : decode cX7_add 17 = .ok (.getfield 19, 3) := o180 hcX7_add rfl
theorem dX7_add_20 : decode cX7_add 20 = .ok (.iload_n 1, 1) := o27 hcX7_add rfl
theorem dX7_add_21 : decode cX7_add 21 = .ok (.i2b, 1) := o145 hcX7_add rfl
theorem dX7_add_22 : decode cX7_add 22 = .ok (.bastore, 1) := o84 hcX7_add rfl
theorem dX7_add_23 : decode cX7_add 23 = .ok (.aload_n 0, 1) := o42 hcX7_add rfl
theorem dX7_add_24 : decode cX7_add 24 = .ok (.dup, 1) := o89 hcX7_add rfl
theorem dX7_add_25 : decode cX7_add 25 = .ok (.getfield 19, 3) := o180 hcX7_add rfl
theorem dX7_add_28 : decode cX7_add 28 = .ok (.iconst 1, 1) := o4 hcX7_add rfl
theorem dX7_add_29 : decode cX7_add 29 = .ok (.iadd, 1) := o96 hcX7_add rfl
theorem dX7_add_30 : decode cX7_add 30 = .ok (.putfield 19, 3) := o181 hcX7_add rfl
theorem dX7_add_33 : decode cX7_add 33 = .ok (.aload_n 0, 1) := o42 hcX7_add rfl
theorem dX7_add_34 : decode cX7_add 34 = .ok (.getfield 19, 3) := o180 hcX7_add rfl
theorem dX7_add_37 : decode cX7_add 37 = .ok (.ireturn, 1) := o172 hcX7_add rfl
theorem dX7_compile_0 : decode cX7_compile 0 = .ok (.aload_n 0, 1) := o42 hcX7_compile rfl
theorem dX7_compile_1 : decode cX7_compile 1 = .ok (.iconst 0, 1) := o3 hcX7_compile rfl
theorem dX7_compile_2 : decode cX7_compile 2 = .ok (.putfield 22, 3) := o181 hcX7_compile rfl
theorem dX7_compile_5 : decode cX7_compile 5 = .ok (.aload_n 0, 1) := o42 hcX7_compile rfl
theorem dX7_compile_6 : decode cX7_compile 6 = .ok (.iconst (-1), 1) := o2 hcX7_compile rfl
theorem dX7_compile_7 : decode cX7_compile 7 = .ok (.putfield 15, 3) := o181 hcX7_compile rfl
theorem dX7_compile_10 : decode cX7_compile 10 = .ok (.aload_n 0, 1) := o42 hcX7_compile rfl
theorem dX7_compile_11 : decode cX7_compile 11 = .ok (.aload_n 1, 1) := o43 hcX7_compile rfl
theorem dX7_compile_12 : decode cX7_compile 12 = .ok (.putfield 25, 3) := o181 hcX7_compile rfl
theorem dX7_compile_15 : decode cX7_compile 15 = .ok (.aload_n 0, 1) := o42 hcX7_compile rfl
theorem dX7_compile_16 : decode cX7_compile 16 = .ok (.iconst 0, 1) := o3 hcX7_compile rfl
theorem dX7_compile_17 : decode cX7_compile 17 = .ok (.putfield 29, 3) := o181 hcX7_compile rfl
theorem dX7_compile_20 : decode cX7_compile 20 = .ok (.aload_n 0, 1) := o42 hcX7_compile rfl
theorem dX7_compile_21 : decode cX7_compile 21 = .ok (.bipush 60, 2) := o16 hcX7_compile (a := 60) rfl rfl
theorem dX7_compile_23 : decode cX7_compile 23 = .ok (.putfield 32, 3) := o181 hcX7_compile rfl
theorem dX7_compile_26 : decode cX7_compile 26 = .ok (.aload_n 0, 1) := o42 hcX7_compile rfl
theorem dX7_compile_27 : decode cX7_compile 27 = .ok (.invokevirtual 35, 3) := o182 hcX7_compile rfl
theorem dX7_compile_30 : decode cX7_compile 30 = .ok (.iconst 1, 1) := o4 hcX7_compile rfl
theorem dX7_compile_31 : decode cX7_compile 31 = .ok (.istore_n 2, 1) := o61 hcX7_compile rfl
theorem dX7_compile_32 : decode cX7_compile 32 = .ok (.iload_n 2, 1) := o28 hcX7_compile rfl
theorem dX7_compile_33 : decode cX7_compile 33 = .ok (.bipush 10, 2) := o16 hcX7_compile (a := 10) rfl rfl
theorem dX7_compile_35 : decode cX7_compile 35 = .ok (.if_icmp .ge 22, 3) := o162 hcX7_compile (a := 22) rfl rfl
theorem dX7_compile_38 : decode cX7_compile 38 = .ok (.aload_n 0, 1) := o42 hcX7_compile rfl
theorem dX7_compile_39 : decode cX7_compile 39 = .ok (.bipush 59, 2) := o16 hcX7_compile (a := 59) rfl rfl
theorem dX7_compile_41 : decode cX7_compile 41 = .ok (.invokevirtual 38, 3) := o182 hcX7_compile rfl
theorem dX7_compile_44 : decode cX7_compile 44 = .ok (.ifCond .eq 13, 3) := o153 hcX7_compile (a := 13) rfl rfl
theorem dX7_compile_47 : decode cX7_compile 47 = .ok (.aload_n 0, 1) := o42 hcX7_compile rfl
theorem dX7_compile_48 : decode cX7_compile 48 = .ok (.invokevirtual 35, 3) := o182 hcX7_compile rfl
theorem dX7_compile_51 : decode cX7_compile 51 = .ok (.iinc 2 1, 3) := o132 hcX7_compile (b := 1) rfl rfl
theorem dX7_compile_54 : decode cX7_compile 54 = .ok (.goto (-22), 3) := o167 hcX7_compile (a := 65514) rfl rfl
theorem dX7_compile_57 : decode cX7_compile 57 = .ok (.aload_n 0, 1) := o42 hcX7_compile rfl
theorem dX7_compile_58 : decode cX7_compile 58 = .ok (.getfield 15, 3) := o180 hcX7_compile rfl
theorem dX7_compile_61 : decode cX7_compile 61 = .ok (.iconst (-1), 1) := o2 hcX7_compile rfl
theorem dX7_compile_62 : decode cX7_compile 62 = .ok (.if_icmp .ne 22, 3) := o160 hcX7_compile (a := 22) rfl rfl
theorem dX7_compile_65 : decode cX7_compile 65 = .ok (.aload_n 0, 1) := o42 hcX7_compile rfl
theorem dX7_compile_66 : decode cX7_compile 66 = .ok (.getfield 22, 3) := o180 hcX7_compile rfl
theorem dX7_compile_69 : decode cX7_compile 69 = .ok (.aload_n 0, 1) := o42 hcX7_compile rfl
theorem dX7_compile_70 : decode cX7_compile 70 = .ok (.getfield 19, 3) := o180 hcX7_compile rfl
theorem dX7_compile_73 : decode cX7_compile 73 = .ok (.if_icmp .ge 11, 3) := o162 hcX7_compile (a := 11) rfl rfl
theorem dX7_compile_76 : decode cX7_compile 76 = .ok (.aload_n 0, 1) := o42 hcX7_compile rfl
theorem dX7_compile_77 : decode cX7_compile 77 = .ok (.aload_n 0, 1) := o42 hcX7_compile rfl
theorem dX7_compile_78 : decode cX7_compile 78 = .ok (.getfield 22, 3) := o180 hcX7_compile rfl
theorem dX7_compile_81 : decode cX7_compile 81 = .ok (.putfield 15, 3) := o181 hcX7_compile rfl
theorem dX7_compile_84 : decode cX7_compile 84 = .ok (.return_, 1) := o177 hcX7_compile rfl
theorem dX7_clause_0 : decode cX7_clause 0 = .ok (.aload_n 0, 1) := o42 hcX7_clause rfl
theorem dX7_clause_1 : decode cX7_clause 1 = .ok (.bipush 99, 2) := o16 hcX7_clause (a := 99) rfl rfl
theorem dX7_clause_3 : decode cX7_clause 3 = .ok (.invokevirtual 38, 3) := o182 hcX7_clause rfl
theorem dX7_clause_6 : decode cX7_clause 6 = .ok (.ifCond .eq 8, 3) := o153 hcX7_clause (a := 8) rfl rfl
theorem dX7_clause_9 : decode cX7_clause 9 = .ok (.bipush 21, 2) := o16 hcX7_clause (a := 21) rfl rfl
theorem dX7_clause_11 : decode cX7_clause 11 = .ok (.goto 18, 3) := o167 hcX7_clause (a := 18) rfl rfl
theorem dX7_clause_14 : decode cX7_clause 14 = .ok (.aload_n 0, 1) := o42 hcX7_clause rfl
theorem dX7_clause_15 : decode cX7_clause 15 = .ok (.bipush 119, 2) := o16 hcX7_clause (a := 119) rfl rfl
theorem dX7_clause_17 : decode cX7_clause 17 = .ok (.invokevirtual 38, 3) := o182 hcX7_clause rfl
theorem dX7_clause_20 : decode cX7_clause 20 = .ok (.ifCond .eq 8, 3) := o153 hcX7_clause (a := 8) rfl rfl
theorem dX7_clause_23 : decode cX7_clause 23 = .ok (.bipush 22, 2) := o16 hcX7_clause (a := 22) rfl rfl
theorem dX7_clause_25 : decode cX7_clause 25 = .ok (.goto 4, 3) := o167 hcX7_clause (a := 4) rfl rfl
theorem dX7_clause_28 : decode cX7_clause 28 = .ok (.iconst (-1), 1) := o2 hcX7_clause rfl
theorem dX7_clause_29 : decode cX7_clause 29 = .ok (.istore_n 1, 1) := o60 hcX7_clause rfl
theorem dX7_clause_30 : decode cX7_clause 30 = .ok (.aload_n 0, 1) := o42 hcX7_clause rfl
theorem dX7_clause_31 : decode cX7_clause 31 = .ok (.iload_n 1, 1) := o27 hcX7_clause rfl
theorem dX7_clause_32 : decode cX7_clause 32 = .ok (.bipush 21, 2) := o16 hcX7_clause (a := 21) rfl rfl
theorem dX7_clause_34 : decode cX7_clause 34 = .ok (.if_icmp .ne 8, 3) := o160 hcX7_clause (a := 8) rfl rfl
theorem dX7_clause_37 : decode cX7_clause 37 = .ok (.ldc 44, 2) := o18 hcX7_clause rfl
theorem dX7_clause_39 : decode cX7_clause 39 = .ok (.goto 16, 3) := o167 hcX7_clause (a := 16) rfl rfl
theorem dX7_clause_42 : decode cX7_clause 42 = .ok (.iload_n 1, 1) := o27 hcX7_clause rfl
theorem dX7_clause_43 : decode cX7_clause 43 = .ok (.bipush 22, 2) := o16 hcX7_clause (a := 22) rfl rfl
theorem dX7_clause_45 : decode cX7_clause 45 = .ok (.if_icmp .ne 8, 3) := o160 hcX7_clause (a := 8) rfl rfl
theorem dX7_clause_48 : decode cX7_clause 48 = .ok (.ldc 46, 2) := o18 hcX7_clause rfl
theorem dX7_clause_50 : decode cX7_clause 50 = .ok (.goto 5, 3) := o167 hcX7_clause (a := 5) rfl rfl
theorem dX7_clause_53 : decode cX7_clause 53 = .ok (.ldc 48, 2) := o18 hcX7_clause rfl
theorem dX7_clause_55 : decode cX7_clause 55 = .ok (.invokevirtual 50, 3) := o182 hcX7_clause rfl
theorem dX7_clause_58 : decode cX7_clause 58 = .ok (.aload_n 0, 1) := o42 hcX7_clause rfl
theorem dX7_clause_59 : decode cX7_clause 59 = .ok (.invokevirtual 54, 3) := o182 hcX7_clause rfl
theorem dX7_clause_62 : decode cX7_clause 62 = .ok (.istore_n 2, 1) := o61 hcX7_clause rfl
theorem dX7_clause_63 : decode cX7_clause 63 = .ok (.iload_n 1, 1) := o27 hcX7_clause rfl
theorem dX7_clause_64 : decode cX7_clause 64 = .ok (.iconst (-1), 1) := o2 hcX7_clause rfl
theorem dX7_clause_65 : decode cX7_clause 65 = .ok (.if_icmp .ne 9, 3) := o160 hcX7_clause (a := 9) rfl rfl
theorem dX7_clause_68 : decode cX7_clause 68 = .ok (.aload_n 0, 1) := o42 hcX7_clause rfl
theorem dX7_clause_69 : decode cX7_clause 69 = .ok (.iload_n 2, 1) := o28 hcX7_clause rfl
theorem dX7_clause_70 : decode cX7_clause 70 = .ok (.putfield 32, 3) := o181 hcX7_clause rfl
theorem dX7_clause_73 : decode cX7_clause 73 = .ok (.return_, 1) := o177 hcX7_clause rfl
theorem dX7_clause_74 : decode cX7_clause 74 = .ok (.aload_n 0, 1) := o42 hcX7_clause rfl
theorem dX7_clause_75 : decode cX7_clause 75 = .ok (.ldc 58, 2) := o18 hcX7_clause rfl
theorem dX7_clause_77 : decode cX7_clause 77 = .ok (.invokevirtual 50, 3) := o182 hcX7_clause rfl
theorem dX7_clause_80 : decode cX7_clause 80 = .ok (.aload_n 0, 1) := o42 hcX7_clause rfl
theorem dX7_clause_81 : decode cX7_clause 81 = .ok (.iconst 0, 1) := o3 hcX7_clause rfl
theorem dX7_clause_82 : decode cX7_clause 82 = .ok (.invokevirtual 60, 3) := o182 hcX7_clause rfl
theorem dX7_clause_85 : decode cX7_clause 85 = .ok (.aload_n 0, 1) := o42 hcX7_clause rfl
theorem dX7_clause_86 : decode cX7_clause 86 = .ok (.iload_n 1, 1) := o27 hcX7_clause rfl
theorem dX7_clause_87 : decode cX7_clause 87 = .ok (.iload_n 2, 1) := o28 hcX7_clause rfl
theorem dX7_clause_88 : decode cX7_clause 88 = .ok (.invokevirtual 64, 3) := o182 hcX7_clause rfl
theorem dX7_clause_91 : decode cX7_clause 91 = .ok (.return_, 1) := o177 hcX7_clause rfl
theorem dX7_either_0 : decode cX7_either 0 = .ok (.iconst 0, 1) := o3 hcX7_either rfl
theorem dX7_either_1 : decode cX7_either 1 = .ok (.istore_n 2, 1) := o61 hcX7_either rfl
theorem dX7_either_2 : decode cX7_either 2 = .ok (.iconst 0, 1) := o3 hcX7_either rfl
theorem dX7_either_3 : decode cX7_either 3 = .ok (.istore_n 3, 1) := o62 hcX7_either rfl
theorem dX7_either_4 : decode cX7_either 4 = .ok (.iconst 0, 1) := o3 hcX7_either rfl
theorem dX7_either_5 : decode cX7_either 5 = .ok (.istore 4, 2) := o54 hcX7_either rfl
theorem dX7_either_7 : decode cX7_either 7 = .ok (.iload 4, 2) := o21 hcX7_either rfl
theorem dX7_either_9 : decode cX7_either 9 = .ok (.bipush 100, 2) := o16 hcX7_either (a := 100) rfl rfl
theorem dX7_either_11 : decode cX7_either 11 = .ok (.if_icmp .ge 62, 3) := o162 hcX7_either (a := 62) rfl rfl
theorem dX7_either_14 : decode cX7_either 14 = .ok (.aload_n 0, 1) := o42 hcX7_either rfl
theorem dX7_either_15 : decode cX7_either 15 = .ok (.iload_n 1, 1) := o27 hcX7_either rfl
theorem dX7_either_16 : decode cX7_either 16 = .ok (.invokevirtual 68, 3) := o182 hcX7_either rfl
theorem dX7_either_19 : decode cX7_either 19 = .ok (.iload_n 2, 1) := o28 hcX7_either rfl
theorem dX7_either_20 : decode cX7_either 20 = .ok (.ifCond .eq 10, 3) := o153 hcX7_either (a := 10) rfl rfl
theorem dX7_either_23 : decode cX7_either 23 = .ok (.aload_n 0, 1) := o42 hcX7_either rfl
theorem dX7_either_24 : decode cX7_either 24 = .ok (.bipush 19, 2) := o16 hcX7_either (a := 19) rfl rfl
theorem dX7_either_26 : decode cX7_either 26 = .ok (.iconst 0, 1) := o3 hcX7_either rfl
theorem dX7_either_27 : decode cX7_either 27 = .ok (.invokevirtual 64, 3) := o182 hcX7_either rfl
theorem dX7_either_30 : decode cX7_either 30 = .ok (.aload_n 0, 1) := o42 hcX7_either rfl
theorem dX7_either_31 : decode cX7_either 31 = .ok (.bipush 38, 2) := o16 hcX7_either (a := 38) rfl rfl
theorem dX7_either_33 : decode cX7_either 33 = .ok (.invokevirtual 38, 3) := o182 hcX7_either rfl
theorem dX7_either_36 : decode cX7_either 36 = .ok (.istore_n 2, 1) := o61 hcX7_either rfl
theorem dX7_either_37 : decode cX7_either 37 = .ok (.iload_n 2, 1) := o28 hcX7_either rfl
theorem dX7_either_38 : decode cX7_either 38 = .ok (.ifCond .eq 6, 3) := o153 hcX7_either (a := 6) rfl rfl
theorem dX7_either_41 : decode cX7_either 41 = .ok (.goto 26, 3) := o167 hcX7_either (a := 26) rfl rfl
theorem dX7_either_44 : decode cX7_either 44 = .ok (.iload_n 3, 1) := o29 hcX7_either rfl
theorem dX7_either_45 : decode cX7_either 45 = .ok (.ifCond .eq 10, 3) := o153 hcX7_either (a := 10) rfl rfl
theorem dX7_either_48 : decode cX7_either 48 = .ok (.aload_n 0, 1) := o42 hcX7_either rfl
theorem dX7_either_49 : decode cX7_either 49 = .ok (.bipush 20, 2) := o16 hcX7_either (a := 20) rfl rfl
theorem dX7_either_51 : decode cX7_either 51 = .ok (.iconst 0, 1) := o3 hcX7_either rfl
theorem dX7_either_52 : decode cX7_either 52 = .ok (.invokevirtual 64, 3) := o182 hcX7_either rfl
theorem dX7_either_55 : decode cX7_either 55 = .ok (.aload_n 0, 1) := o42 hcX7_either rfl
theorem dX7_either_56 : decode cX7_either 56 = .ok (.bipush 124, 2) := o16 hcX7_either (a := 124) rfl rfl
theorem dX7_either_58 : decode cX7_either 58 = .ok (.invokevirtual 38, 3) := o182 hcX7_either rfl
theorem dX7_either_61 : decode cX7_either 61 = .ok (.istore_n 3, 1) := o62 hcX7_either rfl
theorem dX7_either_62 : decode cX7_either 62 = .ok (.iload_n 3, 1) := o29 hcX7_either rfl
theorem dX7_either_63 : decode cX7_either 63 = .ok (.ifCond .ne 4, 3) := o154 hcX7_either (a := 4) rfl rfl
theorem dX7_either_66 : decode cX7_either 66 = .ok (.return_, 1) := o177 hcX7_either rfl
theorem dX7_either_67 : decode cX7_either 67 = .ok (.iinc 4 1, 3) := o132 hcX7_either (b := 1) rfl rfl
theorem dX7_either_70 : decode cX7_either 70 = .ok (.goto (-63), 3) := o167 hcX7_either (a := 65473) rfl rfl
theorem dX7_either_73 : decode cX7_either 73 = .ok (.return_, 1) := o177 hcX7_either rfl
theorem dX7_part_0 : decode cX7_part 0 = .ok (.iload_n 1, 1) := o27 hcX7_part rfl
theorem dX7_part_1 : decode cX7_part 1 = .ok (.iconst 4, 1) := o7 hcX7_part rfl
theorem dX7_part_2 : decode cX7_part 2 = .ok (.if_icmp .ge 7, 3) := o162 hcX7_part (a := 7) rfl rfl
theorem dX7_part_5 : decode cX7_part 5 = .ok (.iconst 1, 1) := o4 hcX7_part rfl
theorem dX7_part_6 : decode cX7_part 6 = .ok (.goto 4, 3) := o167 hcX7_part (a := 4) rfl rfl
theorem dX7_part_9 : decode cX7_part 9 = .ok (.iconst 0, 1) := o3 hcX7_part rfl
theorem dX7_part_10 : decode cX7_part 10 = .ok (.istore_n 2, 1) := o61 hcX7_part rfl
theorem dX7_part_11 : decode cX7_part 11 = .ok (.iload_n 2, 1) := o28 hcX7_part rfl
theorem dX7_part_12 : decode cX7_part 12 = .ok (.ifCond .eq 29, 3) := o153 hcX7_part (a := 29) rfl rfl
theorem dX7_part_15 : decode cX7_part 15 = .ok (.aload_n 0, 1) := o42 hcX7_part rfl
theorem dX7_part_16 : decode cX7_part 16 = .ok (.bipush 33, 2) := o16 hcX7_part (a := 33) rfl rfl
theorem dX7_part_18 : decode cX7_part 18 = .ok (.invokevirtual 38, 3) := o182 hcX7_part rfl
theorem dX7_part_21 : decode cX7_part 21 = .ok (.ifCond .eq 20, 3) := o153 hcX7_part (a := 20) rfl rfl
theorem dX7_part_24 : decode cX7_part 24 = .ok (.aload_n 0, 1) := o42 hcX7_part rfl
theorem dX7_part_25 : decode cX7_part 25 = .ok (.iload_n 1, 1) := o27 hcX7_part rfl
theorem dX7_part_26 : decode cX7_part 26 = .ok (.iconst 1, 1) := o4 hcX7_part rfl
theorem dX7_part_27 : decode cX7_part 27 = .ok (.iadd, 1) := o96 hcX7_part rfl
theorem dX7_part_28 : decode cX7_part 28 = .ok (.invokevirtual 68, 3) := o182 hcX7_part rfl
theorem dX7_part_31 : decode cX7_part 31 = .ok (.aload_n 0, 1) := o42 hcX7_part rfl
theorem dX7_part_32 : decode cX7_part 32 = .ok (.bipush 18, 2) := o16 hcX7_part (a := 18) rfl rfl
theorem dX7_part_34 : decode cX7_part 34 = .ok (.iconst 0, 1) := o3 hcX7_part rfl
theorem dX7_part_35 : decode cX7_part 35 = .ok (.invokevirtual 64, 3) := o182 hcX7_part rfl
theorem dX7_part_38 : decode cX7_part 38 = .ok (.goto 61, 3) := o167 hcX7_part (a := 61) rfl rfl
theorem dX7_part_41 : decode cX7_part 41 = .ok (.iload_n 2, 1) := o28 hcX7_part rfl
theorem dX7_part_42 : decode cX7_part 42 = .ok (.ifCond .eq 28, 3) := o153 hcX7_part (a := 28) rfl rfl
theorem dX7_part_45 : decode cX7_part 45 = .ok (.aload_n 0, 1) := o42 hcX7_part rfl
theorem dX7_part_46 : decode cX7_part 46 = .ok (.bipush 40, 2) := o16 hcX7_part (a := 40) rfl rfl
theorem dX7_part_48 : decode cX7_part 48 = .ok (.invokevirtual 38, 3) := o182 hcX7_part rfl
theorem dX7_part_51 : decode cX7_part 51 = .ok (.ifCond .eq 19, 3) := o153 hcX7_part (a := 19) rfl rfl
theorem dX7_part_54 : decode cX7_part 54 = .ok (.aload_n 0, 1) := o42 hcX7_part rfl
theorem dX7_part_55 : decode cX7_part 55 = .ok (.iload_n 1, 1) := o27 hcX7_part rfl
theorem dX7_part_56 : decode cX7_part 56 = .ok (.iconst 1, 1) := o4 hcX7_part rfl
theorem dX7_part_57 : decode cX7_part 57 = .ok (.iadd, 1) := o96 hcX7_part rfl
theorem dX7_part_58 : decode cX7_part 58 = .ok (.invokevirtual 60, 3) := o182 hcX7_part rfl
theorem dX7_part_61 : decode cX7_part 61 = .ok (.aload_n 0, 1) := o42 hcX7_part rfl
theorem dX7_part_62 : decode cX7_part 62 = .ok (.ldc 71, 2) := o18 hcX7_part rfl
theorem dX7_part_64 : decode cX7_part 64 = .ok (.invokevirtual 50, 3) := o182 hcX7_part rfl
theorem dX7_part_67 : decode cX7_part 67 = .ok (.goto 32, 3) := o167 hcX7_part (a := 32) rfl rfl
theorem dX7_part_70 : decode cX7_part 70 = .ok (.aload_n 0, 1) := o42 hcX7_part rfl
theorem dX7_part_71 : decode cX7_part 71 = .ok (.ldc 73, 2) := o18 hcX7_part rfl
theorem dX7_part_73 : decode cX7_part 73 = .ok (.invokevirtual 75, 3) := o182 hcX7_part rfl
theorem dX7_part_76 : decode cX7_part 76 = .ok (.istore_n 3, 1) := o62 hcX7_part rfl
theorem dX7_part_77 : decode cX7_part 77 = .ok (.aload_n 0, 1) := o42 hcX7_part rfl
theorem dX7_part_78 : decode cX7_part 78 = .ok (.ldc 79, 2) := o18 hcX7_part rfl
theorem dX7_part_80 : decode cX7_part 80 = .ok (.invokevirtual 75, 3) := o182 hcX7_part rfl
theorem dX7_part_83 : decode cX7_part 83 = .ok (.istore 4, 2) := o54 hcX7_part rfl
theorem dX7_part_85 : decode cX7_part 85 = .ok (.aload_n 0, 1) := o42 hcX7_part rfl
theorem dX7_part_86 : decode cX7_part 86 = .ok (.iload_n 3, 1) := o29 hcX7_part rfl
theorem dX7_part_87 : decode cX7_part 87 = .ok (.iconst 3, 1) := o6 hcX7_part rfl
theorem dX7_part_88 : decode cX7_part 88 = .ok (.imul, 1) := o104 hcX7_part rfl
theorem dX7_part_89 : decode cX7_part 89 = .ok (.iload 4, 2) := o21 hcX7_part rfl
theorem dX7_part_91 : decode cX7_part 91 = .ok (.iadd, 1) := o96 hcX7_part rfl
theorem dX7_part_92 : decode cX7_part 92 = .ok (.aload_n 0, 1) := o42 hcX7_part rfl
theorem dX7_part_93 : decode cX7_part 93 = .ok (.invokevirtual 54, 3) := o182 hcX7_part rfl
theorem dX7_part_96 : decode cX7_part 96 = .ok (.invokevirtual 64, 3) := o182 hcX7_part rfl
theorem dX7_part_99 : decode cX7_part 99 = .ok (.return_, 1) := o177 hcX7_part rfl
theorem dX7_number_0 : decode cX7_number 0 = .ok (.aload_n 0, 1) := o42 hcX7_number rfl
theorem dX7_number_1 : decode cX7_number 1 = .ok (.ldc 81, 2) := o18 hcX7_number rfl
theorem dX7_number_3 : decode cX7_number 3 = .ok (.invokevirtual 75, 3) := o182 hcX7_number rfl
theorem dX7_number_6 : decode cX7_number 6 = .ok (.istore_n 1, 1) := o60 hcX7_number rfl
theorem dX7_number_7 : decode cX7_number 7 = .ok (.aload_n 0, 1) := o42 hcX7_number rfl
theorem dX7_number_8 : decode cX7_number 8 = .ok (.getfield 22, 3) := o180 hcX7_number rfl
theorem dX7_number_11 : decode cX7_number 11 = .ok (.aload_n 0, 1) := o42 hcX7_number rfl
theorem dX7_number_12 : decode cX7_number 12 = .ok (.getfield 19, 3) := o180 hcX7_number rfl
theorem dX7_number_15 : decode cX7_number 15 = .ok (.if_icmp .ge 43, 3) := o162 hcX7_number (a := 43) rfl rfl
theorem dX7_number_18 : decode cX7_number 18 = .ok (.aload_n 0, 1) := o42 hcX7_number rfl
theorem dX7_number_19 : decode cX7_number 19 = .ok (.getfield 9, 3) := o180 hcX7_number rfl
theorem dX7_number_22 : decode cX7_number 22 = .ok (.aload_n 0, 1) := o42 hcX7_number rfl
theorem dX7_number_23 : decode cX7_number 23 = .ok (.getfield 22, 3) := o180 hcX7_number rfl
theorem dX7_number_26 : decode cX7_number 26 = .ok (.baload, 1) := o51 hcX7_number rfl
theorem dX7_number_27 : decode cX7_number 27 = .ok (.bipush 48, 2) := o16 hcX7_number (a := 48) rfl rfl
theorem dX7_number_29 : decode cX7_number 29 = .ok (.if_icmp .lt 29, 3) := o161 hcX7_number (a := 29) rfl rfl
theorem dX7_number_32 : decode cX7_number 32 = .ok (.aload_n 0, 1) := o42 hcX7_number rfl
theorem dX7_number_33 : decode cX7_number 33 = .ok (.getfield 9, 3) := o180 hcX7_number rfl
theorem dX7_number_36 : decode cX7_number 36 = .ok (.aload_n 0, 1) := o42 hcX7_number rfl
theorem dX7_number_37 : decode cX7_number 37 = .ok (.getfield 22, 3) := o180 hcX7_number rfl
theorem dX7_number_40 : decode cX7_number 40 = .ok (.baload, 1) := o51 hcX7_number rfl
theorem dX7_number_41 : decode cX7_number 41 = .ok (.bipush 57, 2) := o16 hcX7_number (a := 57) rfl rfl
theorem dX7_number_43 : decode cX7_number 43 = .ok (.if_icmp .gt 15, 3) := o163 hcX7_number (a := 15) rfl rfl
theorem dX7_number_46 : decode cX7_number 46 = .ok (.iload_n 1, 1) := o27 hcX7_number rfl
theorem dX7_number_47 : decode cX7_number 47 = .ok (.bipush 10, 2) := o16 hcX7_number (a := 10) rfl rfl
theorem dX7_number_49 : decode cX7_number 49 = .ok (.imul, 1) := o104 hcX7_number rfl
theorem dX7_number_50 : decode cX7_number 50 = .ok (.aload_n 0, 1) := o42 hcX7_number rfl
theorem dX7_number_51 : decode cX7_number 51 = .ok (.ldc 81, 2) := o18 hcX7_number rfl
theorem dX7_number_53 : decode cX7_number 53 = .ok (.invokevirtual 75, 3) := o182 hcX7_number rfl
theorem dX7_number_56 : decode cX7_number 56 = .ok (.iadd, 1) := o96 hcX7_number rfl
theorem dX7_number_57 : decode cX7_number 57 = .ok (.istore_n 1, 1) := o60 hcX7_number rfl
theorem dX7_number_58 : decode cX7_number 58 = .ok (.iload_n 1, 1) := o27 hcX7_number rfl
theorem dX7_number_59 : decode cX7_number 59 = .ok (.ireturn, 1) := o172 hcX7_number rfl
theorem dX7_word_0 : decode cX7_word 0 = .ok (.iconst 0, 1) := o3 hcX7_word rfl
theorem dX7_word_1 : decode cX7_word 1 = .ok (.istore_n 2, 1) := o61 hcX7_word rfl
theorem dX7_word_2 : decode cX7_word 2 = .ok (.iload_n 2, 1) := o28 hcX7_word rfl
theorem dX7_word_3 : decode cX7_word 3 = .ok (.aload_n 1, 1) := o43 hcX7_word rfl
theorem dX7_word_4 : decode cX7_word 4 = .ok (.invokevirtual 83, 3) := o182 hcX7_word rfl
theorem dX7_word_7 : decode cX7_word 7 = .ok (.if_icmp .ge 37, 3) := o162 hcX7_word (a := 37) rfl rfl
theorem dX7_word_10 : decode cX7_word 10 = .ok (.aload_n 0, 1) := o42 hcX7_word rfl
theorem dX7_word_11 : decode cX7_word 11 = .ok (.aload_n 1, 1) := o43 hcX7_word rfl
theorem dX7_word_12 : decode cX7_word 12 = .ok (.iload_n 2, 1) := o28 hcX7_word rfl
theorem dX7_word_13 : decode cX7_word 13 = .ok (.invokevirtual 87, 3) := o182 hcX7_word rfl
theorem dX7_word_16 : decode cX7_word 16 = .ok (.invokevirtual 38, 3) := o182 hcX7_word rfl
theorem dX7_word_19 : decode cX7_word 19 = .ok (.ifCond .ne 19, 3) := o154 hcX7_word (a := 19) rfl rfl
theorem dX7_word_22 : decode cX7_word 22 = .ok (.aload_n 0, 1) := o42 hcX7_word rfl
theorem dX7_word_23 : decode cX7_word 23 = .ok (.getfield 15, 3) := o180 hcX7_word rfl
theorem dX7_word_26 : decode cX7_word 26 = .ok (.iconst (-1), 1) := o2 hcX7_word rfl
theorem dX7_word_27 : decode cX7_word 27 = .ok (.if_icmp .ne 11, 3) := o160 hcX7_word (a := 11) rfl rfl
theorem dX7_word_30 : decode cX7_word 30 = .ok (.aload_n 0, 1) := o42 hcX7_word rfl
theorem dX7_word_31 : decode cX7_word 31 = .ok (.aload_n 0, 1) := o42 hcX7_word rfl
theorem dX7_word_32 : decode cX7_word 32 = .ok (.getfield 22, 3) := o180 hcX7_word rfl
theorem dX7_word_35 : decode cX7_word 35 = .ok (.putfield 15, 3) := o181 hcX7_word rfl
theorem dX7_word_38 : decode cX7_word 38 = .ok (.iinc 2 1, 3) := o132 hcX7_word (b := 1) rfl rfl
theorem dX7_word_41 : decode cX7_word 41 = .ok (.goto (-39), 3) := o167 hcX7_word (a := 65497) rfl rfl
theorem dX7_word_44 : decode cX7_word 44 = .ok (.return_, 1) := o177 hcX7_word rfl
theorem dX7_choice_0 : decode cX7_choice 0 = .ok (.aload_n 0, 1) := o42 hcX7_choice rfl
theorem dX7_choice_1 : decode cX7_choice 1 = .ok (.getfield 15, 3) := o180 hcX7_choice rfl
theorem dX7_choice_4 : decode cX7_choice 4 = .ok (.iconst (-1), 1) := o2 hcX7_choice rfl
theorem dX7_choice_5 : decode cX7_choice 5 = .ok (.if_icmp .ne 31, 3) := o160 hcX7_choice (a := 31) rfl rfl
theorem dX7_choice_8 : decode cX7_choice 8 = .ok (.aload_n 0, 1) := o42 hcX7_choice rfl
theorem dX7_choice_9 : decode cX7_choice 9 = .ok (.getfield 22, 3) := o180 hcX7_choice rfl
theorem dX7_choice_12 : decode cX7_choice 12 = .ok (.aload_n 0, 1) := o42 hcX7_choice rfl
theorem dX7_choice_13 : decode cX7_choice 13 = .ok (.getfield 19, 3) := o180 hcX7_choice rfl
theorem dX7_choice_16 : decode cX7_choice 16 = .ok (.if_icmp .ge 20, 3) := o162 hcX7_choice (a := 20) rfl rfl
theorem dX7_choice_19 : decode cX7_choice 19 = .ok (.aload_n 1, 1) := o43 hcX7_choice rfl
theorem dX7_choice_20 : decode cX7_choice 20 = .ok (.aload_n 0, 1) := o42 hcX7_choice rfl
theorem dX7_choice_21 : decode cX7_choice 21 = .ok (.getfield 9, 3) := o180 hcX7_choice rfl
theorem dX7_choice_24 : decode cX7_choice 24 = .ok (.aload_n 0, 1) := o42 hcX7_choice rfl
theorem dX7_choice_25 : decode cX7_choice 25 = .ok (.getfield 22, 3) := o180 hcX7_choice rfl
theorem dX7_choice_28 : decode cX7_choice 28 = .ok (.baload, 1) := o51 hcX7_choice rfl
theorem dX7_choice_29 : decode cX7_choice 29 = .ok (.i2c, 1) := o146 hcX7_choice rfl
theorem dX7_choice_30 : decode cX7_choice 30 = .ok (.invokevirtual 91, 3) := o182 hcX7_choice rfl
theorem dX7_choice_33 : decode cX7_choice 33 = .ok (.goto 4, 3) := o167 hcX7_choice (a := 4) rfl rfl
theorem dX7_choice_36 : decode cX7_choice 36 = .ok (.iconst (-1), 1) := o2 hcX7_choice rfl
theorem dX7_choice_37 : decode cX7_choice 37 = .ok (.istore_n 2, 1) := o61 hcX7_choice rfl
theorem dX7_choice_38 : decode cX7_choice 38 = .ok (.iload_n 2, 1) := o28 hcX7_choice rfl
theorem dX7_choice_39 : decode cX7_choice 39 = .ok (.ifCond .lt 15, 3) := o155 hcX7_choice (a := 15) rfl rfl
theorem dX7_choice_42 : decode cX7_choice 42 = .ok (.aload_n 0, 1) := o42 hcX7_choice rfl
theorem dX7_choice_43 : decode cX7_choice 43 = .ok (.dup, 1) := o89 hcX7_choice rfl
theorem dX7_choice_44 : decode cX7_choice 44 = .ok (.getfield 22, 3) := o180 hcX7_choice rfl
theorem dX7_choice_47 : decode cX7_choice 47 = .ok (.iconst 1, 1) := o4 hcX7_choice rfl
theorem dX7_choice_48 : decode cX7_choice 48 = .ok (.iadd, 1) := o96 hcX7_choice rfl
theorem dX7_choice_49 : decode cX7_choice 49 = .ok (.putfield 22, 3) := o181 hcX7_choice rfl
theorem dX7_choice_52 : decode cX7_choice 52 = .ok (.iload_n 2, 1) := o28 hcX7_choice rfl
theorem dX7_choice_53 : decode cX7_choice 53 = .ok (.ireturn, 1) := o172 hcX7_choice rfl
theorem dX7_choice_54 : decode cX7_choice 54 = .ok (.aload_n 0, 1) := o42 hcX7_choice rfl
theorem dX7_choice_55 : decode cX7_choice 55 = .ok (.aload_n 0, 1) := o42 hcX7_choice rfl
theorem dX7_choice_56 : decode cX7_choice 56 = .ok (.getfield 15, 3) := o180 hcX7_choice rfl
theorem dX7_choice_59 : decode cX7_choice 59 = .ok (.iconst (-1), 1) := o2 hcX7_choice rfl
theorem dX7_choice_60 : decode cX7_choice 60 = .ok (.if_icmp .ne 10, 3) := o160 hcX7_choice (a := 10) rfl rfl
theorem dX7_choice_63 : decode cX7_choice 63 = .ok (.aload_n 0, 1) := o42 hcX7_choice rfl
theorem dX7_choice_64 : decode cX7_choice 64 = .ok (.getfield 22, 3) := o180 hcX7_choice rfl
theorem dX7_choice_67 : decode cX7_choice 67 = .ok (.goto 7, 3) := o167 hcX7_choice (a := 7) rfl rfl
theorem dX7_choice_70 : decode cX7_choice 70 = .ok (.aload_n 0, 1) := o42 hcX7_choice rfl
theorem dX7_choice_71 : decode cX7_choice 71 = .ok (.getfield 15, 3) := o180 hcX7_choice rfl
theorem dX7_choice_74 : decode cX7_choice 74 = .ok (.putfield 15, 3) := o181 hcX7_choice rfl
theorem dX7_choice_77 : decode cX7_choice 77 = .ok (.iconst 0, 1) := o3 hcX7_choice rfl
theorem dX7_choice_78 : decode cX7_choice 78 = .ok (.ireturn, 1) := o172 hcX7_choice rfl
theorem dX7_take_0 : decode cX7_take 0 = .ok (.aload_n 0, 1) := o42 hcX7_take rfl
theorem dX7_take_1 : decode cX7_take 1 = .ok (.getfield 15, 3) := o180 hcX7_take rfl
theorem dX7_take_4 : decode cX7_take 4 = .ok (.iconst (-1), 1) := o2 hcX7_take rfl
theorem dX7_take_5 : decode cX7_take 5 = .ok (.if_icmp .ne 31, 3) := o160 hcX7_take (a := 31) rfl rfl
theorem dX7_take_8 : decode cX7_take 8 = .ok (.aload_n 0, 1) := o42 hcX7_take rfl
theorem dX7_take_9 : decode cX7_take 9 = .ok (.getfield 22, 3) := o180 hcX7_take rfl
theorem dX7_take_12 : decode cX7_take 12 = .ok (.aload_n 0, 1) := o42 hcX7_take rfl
theorem dX7_take_13 : decode cX7_take 13 = .ok (.getfield 19, 3) := o180 hcX7_take rfl
theorem dX7_take_16 : decode cX7_take 16 = .ok (.if_icmp .ge 20, 3) := o162 hcX7_take (a := 20) rfl rfl
theorem dX7_take_19 : decode cX7_take 19 = .ok (.aload_n 0, 1) := o42 hcX7_take rfl
theorem dX7_take_20 : decode cX7_take 20 = .ok (.getfield 9, 3) := o180 hcX7_take rfl
theorem dX7_take_23 : decode cX7_take 23 = .ok (.aload_n 0, 1) := o42 hcX7_take rfl
theorem dX7_take_24 : decode cX7_take 24 = .ok (.getfield 22, 3) := o180 hcX7_take rfl
theorem dX7_take_27 : decode cX7_take 27 = .ok (.baload, 1) := o51 hcX7_take rfl
theorem dX7_take_28 : decode cX7_take 28 = .ok (.iload_n 1, 1) := o27 hcX7_take rfl
theorem dX7_take_29 : decode cX7_take 29 = .ok (.if_icmp .ne 7, 3) := o160 hcX7_take (a := 7) rfl rfl
theorem dX7_take_32 : decode cX7_take 32 = .ok (.iconst 1, 1) := o4 hcX7_take rfl
theorem dX7_take_33 : decode cX7_take 33 = .ok (.goto 4, 3) := o167 hcX7_take (a := 4) rfl rfl
theorem dX7_take_36 : decode cX7_take 36 = .ok (.iconst 0, 1) := o3 hcX7_take rfl
theorem dX7_take_37 : decode cX7_take 37 = .ok (.istore_n 2, 1) := o61 hcX7_take rfl
theorem dX7_take_38 : decode cX7_take 38 = .ok (.iload_n 2, 1) := o28 hcX7_take rfl
theorem dX7_take_39 : decode cX7_take 39 = .ok (.ifCond .eq 13, 3) := o153 hcX7_take (a := 13) rfl rfl
theorem dX7_take_42 : decode cX7_take 42 = .ok (.aload_n 0, 1) := o42 hcX7_take rfl
theorem dX7_take_43 : decode cX7_take 43 = .ok (.dup, 1) := o89 hcX7_take rfl
theorem dX7_take_44 : decode cX7_take 44 = .ok (.getfield 22, 3) := o180 hcX7_take rfl
theorem dX7_take_47 : decode cX7_take 47 = .ok (.iconst 1, 1) := o4 hcX7_take rfl
theorem dX7_take_48 : decode cX7_take 48 = .ok (.iadd, 1) := o96 hcX7_take rfl
theorem dX7_take_49 : decode cX7_take 49 = .ok (.putfield 22, 3) := o181 hcX7_take rfl
theorem dX7_take_52 : decode cX7_take 52 = .ok (.iload_n 2, 1) := o28 hcX7_take rfl
theorem dX7_take_53 : decode cX7_take 53 = .ok (.ireturn, 1) := o172 hcX7_take rfl
theorem dX7_note_0 : decode cX7_note 0 = .ok (.aload_n 0, 1) := o42 hcX7_note rfl
theorem dX7_note_1 : decode cX7_note 1 = .ok (.getfield 15, 3) := o180 hcX7_note rfl
theorem dX7_note_4 : decode cX7_note 4 = .ok (.iconst (-1), 1) := o2 hcX7_note rfl
theorem dX7_note_5 : decode cX7_note 5 = .ok (.if_icmp .ne 47, 3) := o160 hcX7_note (a := 47) rfl rfl
theorem dX7_note_8 : decode cX7_note 8 = .ok (.aload_n 0, 1) := o42 hcX7_note rfl
theorem dX7_note_9 : decode cX7_note 9 = .ok (.getfield 25, 3) := o180 hcX7_note rfl
theorem dX7_note_12 : decode cX7_note 12 = .ok (.ifnull 40, 3) := o198 hcX7_note (a := 40) rfl rfl
theorem dX7_note_15 : decode cX7_note 15 = .ok (.aload_n 0, 1) := o42 hcX7_note rfl
theorem dX7_note_16 : decode cX7_note 16 = .ok (.getfield 29, 3) := o180 hcX7_note rfl
theorem dX7_note_19 : decode cX7_note 19 = .ok (.aload_n 0, 1) := o42 hcX7_note rfl
theorem dX7_note_20 : decode cX7_note 20 = .ok (.getfield 25, 3) := o180 hcX7_note rfl
theorem dX7_note_23 : decode cX7_note 23 = .ok (.arraylength, 1) := o190 hcX7_note rfl
theorem dX7_note_24 : decode cX7_note 24 = .ok (.if_icmp .ge 28, 3) := o162 hcX7_note (a := 28) rfl rfl
theorem dX7_note_27 : decode cX7_note 27 = .ok (.aload_n 0, 1) := o42 hcX7_note rfl
theorem dX7_note_28 : decode cX7_note 28 = .ok (.getfield 25, 3) := o180 hcX7_note rfl
theorem dX7_note_31 : decode cX7_note 31 = .ok (.aload_n 0, 1) := o42 hcX7_note rfl
theorem dX7_note_32 : decode cX7_note 32 = .ok (.getfield 29, 3) := o180 hcX7_note rfl
theorem dX7_note_35 : decode cX7_note 35 = .ok (.iload_n 1, 1) := o27 hcX7_note rfl
theorem dX7_note_36 : decode cX7_note 36 = .ok (.bipush 100, 2) := o16 hcX7_note (a := 100) rfl rfl
theorem dX7_note_38 : decode cX7_note 38 = .ok (.imul, 1) := o104 hcX7_note rfl
theorem dX7_note_39 : decode cX7_note 39 = .ok (.iload_n 2, 1) := o28 hcX7_note rfl
theorem dX7_note_40 : decode cX7_note 40 = .ok (.iadd, 1) := o96 hcX7_note rfl
theorem dX7_note_41 : decode cX7_note 41 = .ok (.iastore, 1) := o79 hcX7_note rfl
theorem dX7_note_42 : decode cX7_note 42 = .ok (.aload_n 0, 1) := o42 hcX7_note rfl
theorem dX7_note_43 : decode cX7_note 43 = .ok (.dup, 1) := o89 hcX7_note rfl
theorem dX7_note_44 : decode cX7_note 44 = .ok (.getfield 29, 3) := o180 hcX7_note rfl
theorem dX7_note_47 : decode cX7_note 47 = .ok (.iconst 1, 1) := o4 hcX7_note rfl
theorem dX7_note_48 : decode cX7_note 48 = .ok (.iadd, 1) := o96 hcX7_note rfl
theorem dX7_note_49 : decode cX7_note 49 = .ok (.putfield 29, 3) := o181 hcX7_note rfl
theorem dX7_note_52 : decode cX7_note 52 = .ok (.return_, 1) := o177 hcX7_note rfl
theorem dX9_init_0 : decode cX9_init 0 = .ok (.aload_n 0, 1) := o42 hcX9_init rfl
theorem dX9_init_1 : decode cX9_init 1 = .ok (.invokespecial 3, 3) := o183 hcX9_init rfl
theorem dX9_init_4 : decode cX9_init 4 = .ok (.aload_n 0, 1) := o42 hcX9_init rfl
theorem dX9_init_5 : decode cX9_init 5 = .ok (.bipush 6, 2) := o16 hcX9_init (a := 6) rfl rfl
theorem dX9_init_7 : decode cX9_init 7 = .ok (.bipush 100, 2) := o16 hcX9_init (a := 100) rfl rfl
theorem dX9_init_9 : decode cX9_init 9 = .ok (.multianewarray 9 2, 4) := by decide +kernel
theorem dX9_init_13 : decode cX9_init 13 = .ok (.putfield 11, 3) := o181 hcX9_init rfl
theorem dX9_init_16 : decode cX9_init 16 = .ok (.aload_n 0, 1) := o42 hcX9_init rfl
theorem dX9_init_17 : decode cX9_init 17 = .ok (.bipush 6, 2) := o16 hcX9_init (a := 6) rfl rfl
theorem dX9_init_19 : decode cX9_init 19 = .ok (.newarray .int, 2) := by decide +kernel
theorem dX9_init_21 : decode cX9_init 21 = .ok (.putfield 16, 3) := o181 hcX9_init rfl
theorem dX9_init_24 : decode cX9_init 24 = .ok (.aload_n 0, 1) := o42 hcX9_init rfl
theorem dX9_init_25 : decode cX9_init 25 = .ok (.bipush 6, 2) := o16 hcX9_init (a := 6) rfl rfl
theorem dX9_init_27 : decode cX9_init 27 = .ok (.newarray .int, 2) := by decide +kernel
theorem dX9_init_29 : decode cX9_init 29 = .ok (.putfield 20, 3) := o181 hcX9_init rfl
theorem dX9_init_32 : decode cX9_init 32 = .ok (.aload_n 0, 1) := o42 hcX9_init rfl
theorem dX9_init_33 : decode cX9_init 33 = .ok (.bipush 6, 2) := o16 hcX9_init (a := 6) rfl rfl
theorem dX9_init_35 : decode cX9_init 35 = .ok (.newarray .int, 2) := by decide +kernel
theorem dX9_init_37 : decode cX9_init 37 = .ok (.putfield 25, 3) := o181 hcX9_init rfl
theorem dX9_init_40 : decode cX9_init 40 = .ok (.return_, 1) := o177 hcX9_init rfl
theorem dX9_add_0 : decode cX9_add 0 = .ok (.aload_n 0, 1) := o42 hcX9_add rfl
theorem dX9_add_1 : decode cX9_add 1 = .ok (.getfield 28, 3) := o180 hcX9_add rfl
theorem dX9_add_4 : decode cX9_add 4 = .ok (.bipush 6, 2) := o16 hcX9_add (a := 6) rfl rfl
theorem dX9_add_6 : decode cX9_add 6 = .ok (.if_icmp .lt 6, 3) := o161 hcX9_add (a := 6) rfl rfl
theorem dX9_add_9 : decode cX9_add 9 = .ok (.bipush (-4), 2) := o16 hcX9_add (a := 252) rfl rfl
theorem dX9_add_11 : decode cX9_add 11 = .ok (.ireturn, 1) := o172 hcX9_add rfl
theorem dX9_add_12 : decode cX9_add 12 = .ok (.aload_n 0, 1) := o42 hcX9_add rfl
theorem dX9_add_13 : decode cX9_add 13 = .ok (.getfield 28, 3) := o180 hcX9_add rfl
theorem dX9_add_16 : decode cX9_add 16 = .ok (.istore_n 3, 1) := o62 hcX9_add rfl
theorem dX9_add_17 : decode cX9_add 17 = .ok (.aload_n 0, 1) := o42 hcX9_add rfl
theorem dX9_add_18 : decode cX9_add 18 = .ok (.getfield 16, 3) := o180 hcX9_add rfl
theorem dX9_add_21 : decode cX9_add 21 = .ok (.iload_n 3, 1) := o29 hcX9_add rfl
theorem dX9_add_22 : decode cX9_add 22 = .ok (.iload_n 1, 1) := o27 hcX9_add rfl
theorem dX9_add_23 : decode cX9_add 23 = .ok (.iastore, 1) := o79 hcX9_add rfl
theorem dX9_add_24 : decode cX9_add 24 = .ok (.aload_n 0, 1) := o42 hcX9_add rfl
theorem dX9_add_25 : decode cX9_add 25 = .ok (.getfield 20, 3) := o180 hcX9_add rfl
theorem dX9_add_28 : decode cX9_add 28 = .ok (.iload_n 3, 1) := o29 hcX9_add rfl
theorem dX9_add_29 : decode cX9_add 29 = .ok (.iload_n 2, 1) := o28 hcX9_add rfl
theorem dX9_add_30 : decode cX9_add 30 = .ok (.iastore, 1) := o79 hcX9_add rfl
theorem dX9_add_31 : decode cX9_add 31 = .ok (.aload_n 0, 1) := o42 hcX9_add rfl
theorem dX9_add_32 : decode cX9_add 32 = .ok (.dup, 1) := o89 hcX9_add rfl
theorem dX9_add_33 : decode cX9_add 33 = .ok (.getfield 28, 3) := o180 hcX9_add rfl
theorem dX9_add_36 : decode cX9_add 36 = .ok (.iconst 1, 1) := o4 hcX9_add rfl
theorem dX9_add_37 : decode cX9_add 37 = .ok (.iadd, 1) := o96 hcX9_add rfl
theorem dX9_add_38 : decode cX9_add 38 = .ok (.putfield 28, 3) := o181 hcX9_add rfl
theorem dX9_add_41 : decode cX9_add 41 = .ok (.iload_n 3, 1) := o29 hcX9_add rfl
theorem dX9_add_42 : decode cX9_add 42 = .ok (.ireturn, 1) := o172 hcX9_add rfl
theorem dX9_dawnOf_0 : decode cX9_dawnOf 0 = .ok (.iload_n 1, 1) := o27 hcX9_dawnOf rfl
theorem dX9_dawnOf_1 : decode cX9_dawnOf 1 = .ok (.aload_n 0, 1) := o42 hcX9_dawnOf rfl
theorem dX9_dawnOf_2 : decode cX9_dawnOf 2 = .ok (.getfield 28, 3) := o180 hcX9_dawnOf rfl
theorem dX9_dawnOf_5 : decode cX9_dawnOf 5 = .ok (.iconst 1, 1) := o4 hcX9_dawnOf rfl
theorem dX9_dawnOf_6 : decode cX9_dawnOf 6 = .ok (.isub, 1) := o100 hcX9_dawnOf rfl
theorem dX9_dawnOf_7 : decode cX9_dawnOf 7 = .ok (.invokestatic 32, 3) := o184 hcX9_dawnOf rfl
theorem dX9_dawnOf_10 : decode cX9_dawnOf 10 = .ok (.ifCond .eq 12, 3) := o153 hcX9_dawnOf (a := 12) rfl rfl
theorem dX9_dawnOf_13 : decode cX9_dawnOf 13 = .ok (.aload_n 0, 1) := o42 hcX9_dawnOf rfl
theorem dX9_dawnOf_14 : decode cX9_dawnOf 14 = .ok (.getfield 20, 3) := o180 hcX9_dawnOf rfl
theorem dX9_dawnOf_17 : decode cX9_dawnOf 17 = .ok (.iload_n 1, 1) := o27 hcX9_dawnOf rfl
theorem dX9_dawnOf_18 : decode cX9_dawnOf 18 = .ok (.iaload, 1) := o46 hcX9_dawnOf rfl
theorem dX9_dawnOf_19 : decode cX9_dawnOf 19 = .ok (.goto 5, 3) := o167 hcX9_dawnOf (a := 5) rfl rfl
theorem dX9_dawnOf_22 : decode cX9_dawnOf 22 = .ok (.bipush 60, 2) := o16 hcX9_dawnOf (a := 60) rfl rfl
theorem dX9_dawnOf_24 : decode cX9_dawnOf 24 = .ok (.ireturn, 1) := o172 hcX9_dawnOf rfl
theorem dX9_weigh_0 : decode cX9_weigh 0 = .ok (.aload_n 0, 1) := o42 hcX9_weigh rfl
theorem dX9_weigh_1 : decode cX9_weigh 1 = .ok (.getfield 25, 3) := o180 hcX9_weigh rfl
theorem dX9_weigh_4 : decode cX9_weigh 4 = .ok (.iconst 0, 1) := o3 hcX9_weigh rfl
theorem dX9_weigh_5 : decode cX9_weigh 5 = .ok (.iload_n 2, 1) := o28 hcX9_weigh rfl
theorem dX9_weigh_6 : decode cX9_weigh 6 = .ok (.iastore, 1) := o79 hcX9_weigh rfl
theorem dX9_weigh_7 : decode cX9_weigh 7 = .ok (.aload_n 0, 1) := o42 hcX9_weigh rfl
theorem dX9_weigh_8 : decode cX9_weigh 8 = .ok (.getfield 25, 3) := o180 hcX9_weigh rfl
theorem dX9_weigh_11 : decode cX9_weigh 11 = .ok (.iconst 1, 1) := o4 hcX9_weigh rfl
theorem dX9_weigh_12 : decode cX9_weigh 12 = .ok (.iload_n 3, 1) := o29 hcX9_weigh rfl
theorem dX9_weigh_13 : decode cX9_weigh 13 = .ok (.iastore, 1) := o79 hcX9_weigh rfl
theorem dX9_weigh_14 : decode cX9_weigh 14 = .ok (.aload_n 0, 1) := o42 hcX9_weigh rfl
theorem dX9_weigh_15 : decode cX9_weigh 15 = .ok (.getfield 25, 3) := o180 hcX9_weigh rfl
theorem dX9_weigh_18 : decode cX9_weigh 18 = .ok (.iconst 2, 1) := o5 hcX9_weigh rfl
theorem dX9_weigh_19 : decode cX9_weigh 19 = .ok (.aload_n 1, 1) := o43 hcX9_weigh rfl
theorem dX9_weigh_20 : decode cX9_weigh 20 = .ok (.getfield 38, 3) := o180 hcX9_weigh rfl
theorem dX9_weigh_23 : decode cX9_weigh 23 = .ok (.iload_n 3, 1) := o29 hcX9_weigh rfl
theorem dX9_weigh_24 : decode cX9_weigh 24 = .ok (.iaload, 1) := o46 hcX9_weigh rfl
theorem dX9_weigh_25 : decode cX9_weigh 25 = .ok (.iastore, 1) := o79 hcX9_weigh rfl
theorem dX9_weigh_26 : decode cX9_weigh 26 = .ok (.aload_n 0, 1) := o42 hcX9_weigh rfl
theorem dX9_weigh_27 : decode cX9_weigh 27 = .ok (.getfield 25, 3) := o180 hcX9_weigh rfl
theorem dX9_weigh_30 : decode cX9_weigh 30 = .ok (.iconst 3, 1) := o6 hcX9_weigh rfl
theorem dX9_weigh_31 : decode cX9_weigh 31 = .ok (.aload_n 1, 1) := o43 hcX9_weigh rfl
theorem dX9_weigh_32 : decode cX9_weigh 32 = .ok (.getfield 43, 3) := o180 hcX9_weigh rfl
theorem dX9_weigh_35 : decode cX9_weigh 35 = .ok (.iload_n 3, 1) := o29 hcX9_weigh rfl
theorem dX9_weigh_36 : decode cX9_weigh 36 = .ok (.iaload, 1) := o46 hcX9_weigh rfl
theorem dX9_weigh_37 : decode cX9_weigh 37 = .ok (.iastore, 1) := o79 hcX9_weigh rfl
theorem dX9_weigh_38 : decode cX9_weigh 38 = .ok (.aload_n 0, 1) := o42 hcX9_weigh rfl
theorem dX9_weigh_39 : decode cX9_weigh 39 = .ok (.getfield 25, 3) := o180 hcX9_weigh rfl
theorem dX9_weigh_42 : decode cX9_weigh 42 = .ok (.iconst 4, 1) := o7 hcX9_weigh rfl
theorem dX9_weigh_43 : decode cX9_weigh 43 = .ok (.iload 4, 2) := o21 hcX9_weigh rfl
theorem dX9_weigh_45 : decode cX9_weigh 45 = .ok (.bipush 10, 2) := o16 hcX9_weigh (a := 10) rfl rfl
theorem dX9_weigh_47 : decode cX9_weigh 47 = .ok (.idiv, 1) := o108 hcX9_weigh rfl
theorem dX9_weigh_48 : decode cX9_weigh 48 = .ok (.iastore, 1) := o79 hcX9_weigh rfl
theorem dX9_weigh_49 : decode cX9_weigh 49 = .ok (.aload_n 0, 1) := o42 hcX9_weigh rfl
theorem dX9_weigh_50 : decode cX9_weigh 50 = .ok (.getfield 25, 3) := o180 hcX9_weigh rfl
theorem dX9_weigh_53 : decode cX9_weigh 53 = .ok (.iconst 5, 1) := o8 hcX9_weigh rfl
theorem dX9_weigh_54 : decode cX9_weigh 54 = .ok (.aload_n 1, 1) := o43 hcX9_weigh rfl
theorem dX9_weigh_55 : decode cX9_weigh 55 = .ok (.getfield 46, 3) := o180 hcX9_weigh rfl
theorem dX9_weigh_58 : decode cX9_weigh 58 = .ok (.iload_n 2, 1) := o28 hcX9_weigh rfl
theorem dX9_weigh_59 : decode cX9_weigh 59 = .ok (.iaload, 1) := o46 hcX9_weigh rfl
theorem dX9_weigh_60 : decode cX9_weigh 60 = .ok (.iastore, 1) := o79 hcX9_weigh rfl
theorem dX9_weigh_61 : decode cX9_weigh 61 = .ok (.aload_n 1, 1) := o43 hcX9_weigh rfl
theorem dX9_weigh_62 : decode cX9_weigh 62 = .ok (.getfield 49, 3) := o180 hcX9_weigh rfl
theorem dX9_weigh_65 : decode cX9_weigh 65 = .ok (.istore 5, 2) := o54 hcX9_weigh rfl
theorem dX9_weigh_67 : decode cX9_weigh 67 = .ok (.iload 5, 2) := o21 hcX9_weigh rfl
theorem dX9_weigh_69 : decode cX9_weigh 69 = .ok (.aload_n 0, 1) := o42 hcX9_weigh rfl
theorem dX9_weigh_70 : decode cX9_weigh 70 = .ok (.getfield 28, 3) := o180 hcX9_weigh rfl
theorem dX9_weigh_73 : decode cX9_weigh 73 = .ok (.iconst 1, 1) := o4 hcX9_weigh rfl
theorem dX9_weigh_74 : decode cX9_weigh 74 = .ok (.isub, 1) := o100 hcX9_weigh rfl
theorem dX9_weigh_75 : decode cX9_weigh 75 = .ok (.invokestatic 32, 3) := o184 hcX9_weigh rfl
theorem dX9_weigh_78 : decode cX9_weigh 78 = .ok (.ifCond .eq 13, 3) := o153 hcX9_weigh (a := 13) rfl rfl
theorem dX9_weigh_81 : decode cX9_weigh 81 = .ok (.aload_n 0, 1) := o42 hcX9_weigh rfl
theorem dX9_weigh_82 : decode cX9_weigh 82 = .ok (.getfield 16, 3) := o180 hcX9_weigh rfl
theorem dX9_weigh_85 : decode cX9_weigh 85 = .ok (.iload 5, 2) := o21 hcX9_weigh rfl
theorem dX9_weigh_87 : decode cX9_weigh 87 = .ok (.iaload, 1) := o46 hcX9_weigh rfl
theorem dX9_weigh_88 : decode cX9_weigh 88 = .ok (.goto 4, 3) := o167 hcX9_weigh (a := 4) rfl rfl
theorem dX9_weigh_91 : decode cX9_weigh 91 = .ok (.iconst 0, 1) := o3 hcX9_weigh rfl
theorem dX9_weigh_92 : decode cX9_weigh 92 = .ok (.istore 6, 2) := o54 hcX9_weigh rfl
theorem dX9_weigh_94 : decode cX9_weigh 94 = .ok (.iconst 0, 1) := o3 hcX9_weigh rfl
theorem dX9_weigh_95 : decode cX9_weigh 95 = .ok (.istore 7, 2) := o54 hcX9_weigh rfl
theorem dX9_weigh_97 : decode cX9_weigh 97 = .ok (.iconst 0, 1) := o3 hcX9_weigh rfl
theorem dX9_weigh_98 : decode cX9_weigh 98 = .ok (.istore 8, 2) := o54 hcX9_weigh rfl
theorem dX9_weigh_100 : decode cX9_weigh 100 = .ok (.iconst 0, 1) := o3 hcX9_weigh rfl
theorem dX9_weigh_101 : decode cX9_weigh 101 = .ok (.istore 9, 2) := o54 hcX9_weigh rfl
theorem dX9_weigh_103 : decode cX9_weigh 103 = .ok (.aload_n 0, 1) := o42 hcX9_weigh rfl
theorem dX9_weigh_104 : decode cX9_weigh 104 = .ok (.iconst 0, 1) := o3 hcX9_weigh rfl
theorem dX9_weigh_105 : decode cX9_weigh 105 = .ok (.putfield 52, 3) := o181 hcX9_weigh rfl
theorem dX9_weigh_108 : decode cX9_weigh 108 = .ok (.aload_n 0, 1) := o42 hcX9_weigh rfl
theorem dX9_weigh_109 : decode cX9_weigh 109 = .ok (.iconst 0, 1) := o3 hcX9_weigh rfl
theorem dX9_weigh_110 : decode cX9_weigh 110 = .ok (.putfield 55, 3) := o181 hcX9_weigh rfl
theorem dX9_weigh_113 : decode cX9_weigh 113 = .ok (.iconst 0, 1) := o3 hcX9_weigh rfl
theorem dX9_weigh_114 : decode cX9_weigh 114 = .ok (.istore 10, 2) := o54 hcX9_weigh rfl
theorem dX9_weigh_116 : decode cX9_weigh 116 = .ok (.iload 10, 2) := o21 hcX9_weigh rfl
theorem dX9_weigh_118 : decode cX9_weigh 118 = .ok (.iload 6, 2) := o21 hcX9_weigh rfl
theorem dX9_weigh_120 : decode cX9_weigh 120 = .ok (.if_icmp .ge 191, 3) := o162 hcX9_weigh (a := 191) rfl rfl
theorem dX9_weigh_123 : decode cX9_weigh 123 = .ok (.aload_n 0, 1) := o42 hcX9_weigh rfl
theorem dX9_weigh_124 : decode cX9_weigh 124 = .ok (.getfield 11, 3) := o180 hcX9_weigh rfl
theorem dX9_weigh_127 : decode cX9_weigh 127 = .ok (.iload 5, 2) := o21 hcX9_weigh rfl
theorem dX9_weigh_129 : decode cX9_weigh 129 = .ok (.aaload, 1) := o50 hcX9_weigh rfl
theorem dX9_weigh_130 : decode cX9_weigh 130 = .ok (.iload 10, 2) := o21 hcX9_weigh rfl
theorem dX9_weigh_132 : decode cX9_weigh 132 = .ok (.iaload, 1) := o46 hcX9_weigh rfl
theorem dX9_weigh_133 : decode cX9_weigh 133 = .ok (.bipush 100, 2) := o16 hcX9_weigh (a := 100) rfl rfl
theorem dX9_weigh_135 : decode cX9_weigh 135 = .ok (.idiv, 1) := o108 hcX9_weigh rfl
theorem dX9_weigh_136 : decode cX9_weigh 136 = .ok (.istore 11, 2) := o54 hcX9_weigh rfl
theorem dX9_weigh_138 : decode cX9_weigh 138 = .ok (.aload_n 0, 1) := o42 hcX9_weigh rfl
theorem dX9_weigh_139 : decode cX9_weigh 139 = .ok (.getfield 11, 3) := o180 hcX9_weigh rfl
theorem dX9_weigh_142 : decode cX9_weigh 142 = .ok (.iload 5, 2) := o21 hcX9_weigh rfl
theorem dX9_weigh_144 : decode cX9_weigh 144 = .ok (.aaload, 1) := o50 hcX9_weigh rfl
theorem dX9_weigh_145 : decode cX9_weigh 145 = .ok (.iload 10, 2) := o21 hcX9_weigh rfl
theorem dX9_weigh_147 : decode cX9_weigh 147 = .ok (.iaload, 1) := o46 hcX9_weigh rfl
theorem dX9_weigh_148 : decode cX9_weigh 148 = .ok (.bipush 100, 2) := o16 hcX9_weigh (a := 100) rfl rfl
theorem dX9_weigh_150 : decode cX9_weigh 150 = .ok (.irem, 1) := o112 hcX9_weigh rfl
theorem dX9_weigh_151 : decode cX9_weigh 151 = .ok (.istore 12, 2) := o54 hcX9_weigh rfl
theorem dX9_weigh_153 : decode cX9_weigh 153 = .ok (.iload 11, 2) := o21 hcX9_weigh rfl
theorem dX9_weigh_155 : decode cX9_weigh 155 = .ok (.tableswitch 127 18 22 #[33, 42, 57, 71, 99], 33) := by decide +kernel
theorem dX9_weigh_188 : decode cX9_weigh 188 = .ok (.iload 9, 2) := o21 hcX9_weigh rfl
theorem dX9_weigh_190 : decode cX9_weigh 190 = .ok (.iconst 1, 1) := o4 hcX9_weigh rfl
theorem dX9_weigh_191 : decode cX9_weigh 191 = .ok (.ixor, 1) := o130 hcX9_weigh rfl
theorem dX9_weigh_192 : decode cX9_weigh 192 = .ok (.istore 9, 2) := o54 hcX9_weigh rfl
theorem dX9_weigh_194 : decode cX9_weigh 194 = .ok (.goto 111, 3) := o167 hcX9_weigh (a := 111) rfl rfl
theorem dX9_weigh_197 : decode cX9_weigh 197 = .ok (.iload 9, 2) := o21 hcX9_weigh rfl
theorem dX9_weigh_199 : decode cX9_weigh 199 = .ok (.iconst 1, 1) := o4 hcX9_weigh rfl
theorem dX9_weigh_200 : decode cX9_weigh 200 = .ok (.ishr, 1) := o122 hcX9_weigh rfl
theorem dX9_weigh_201 : decode cX9_weigh 201 = .ok (.iload 9, 2) := o21 hcX9_weigh rfl
theorem dX9_weigh_203 : decode cX9_weigh 203 = .ok (.bipush (-2), 2) := o16 hcX9_weigh (a := 254) rfl rfl
theorem dX9_weigh_205 : decode cX9_weigh 205 = .ok (.ior, 1) := o128 hcX9_weigh rfl
theorem dX9_weigh_206 : decode cX9_weigh 206 = .ok (.iand, 1) := o126 hcX9_weigh rfl
theorem dX9_weigh_207 : decode cX9_weigh 207 = .ok (.istore 9, 2) := o54 hcX9_weigh rfl
theorem dX9_weigh_209 : decode cX9_weigh 209 = .ok (.goto 96, 3) := o167 hcX9_weigh (a := 96) rfl rfl
theorem dX9_weigh_212 : decode cX9_weigh 212 = .ok (.iload 9, 2) := o21 hcX9_weigh rfl
theorem dX9_weigh_214 : decode cX9_weigh 214 = .ok (.iconst 1, 1) := o4 hcX9_weigh rfl
theorem dX9_weigh_215 : decode cX9_weigh 215 = .ok (.ishr, 1) := o122 hcX9_weigh rfl
theorem dX9_weigh_216 : decode cX9_weigh 216 = .ok (.iload 9, 2) := o21 hcX9_weigh rfl
theorem dX9_weigh_218 : decode cX9_weigh 218 = .ok (.iconst 1, 1) := o4 hcX9_weigh rfl
theorem dX9_weigh_219 : decode cX9_weigh 219 = .ok (.iand, 1) := o126 hcX9_weigh rfl
theorem dX9_weigh_220 : decode cX9_weigh 220 = .ok (.ior, 1) := o128 hcX9_weigh rfl
theorem dX9_weigh_221 : decode cX9_weigh 221 = .ok (.istore 9, 2) := o54 hcX9_weigh rfl
theorem dX9_weigh_223 : decode cX9_weigh 223 = .ok (.goto 82, 3) := o167 hcX9_weigh (a := 82) rfl rfl
theorem dX9_weigh_226 : decode cX9_weigh 226 = .ok (.iconst 1, 1) := o4 hcX9_weigh rfl
theorem dX9_weigh_227 : decode cX9_weigh 227 = .ok (.istore 7, 2) := o54 hcX9_weigh rfl
theorem dX9_weigh_229 : decode cX9_weigh 229 = .ok (.aload_n 0, 1) := o42 hcX9_weigh rfl
theorem dX9_weigh_230 : decode cX9_weigh 230 = .ok (.dup, 1) := o89 hcX9_weigh rfl
theorem dX9_weigh_231 : decode cX9_weigh 231 = .ok (.getfield 52, 3) := o180 hcX9_weigh rfl
theorem dX9_weigh_234 : decode cX9_weigh 234 = .ok (.iload 9, 2) := o21 hcX9_weigh rfl
theorem dX9_weigh_236 : decode cX9_weigh 236 = .ok (.iconst 1, 1) := o4 hcX9_weigh rfl
theorem dX9_weigh_237 : decode cX9_weigh 237 = .ok (.iand, 1) := o126 hcX9_weigh rfl
theorem dX9_weigh_238 : decode cX9_weigh 238 = .ok (.iload 12, 2) := o21 hcX9_weigh rfl
theorem dX9_weigh_240 : decode cX9_weigh 240 = .ok (.imul, 1) := o104 hcX9_weigh rfl
theorem dX9_weigh_241 : decode cX9_weigh 241 = .ok (.iadd, 1) := o96 hcX9_weigh rfl
theorem dX9_weigh_242 : decode cX9_weigh 242 = .ok (.putfield 52, 3) := o181 hcX9_weigh rfl
theorem dX9_weigh_245 : decode cX9_weigh 245 = .ok (.iload 9, 2) := o21 hcX9_weigh rfl
theorem dX9_weigh_247 : decode cX9_weigh 247 = .ok (.iconst 1, 1) := o4 hcX9_weigh rfl
theorem dX9_weigh_248 : decode cX9_weigh 248 = .ok (.ishr, 1) := o122 hcX9_weigh rfl
theorem dX9_weigh_249 : decode cX9_weigh 249 = .ok (.istore 9, 2) := o54 hcX9_weigh rfl
theorem dX9_weigh_251 : decode cX9_weigh 251 = .ok (.goto 54, 3) := o167 hcX9_weigh (a := 54) rfl rfl
theorem dX9_weigh_254 : decode cX9_weigh 254 = .ok (.iconst 1, 1) := o4 hcX9_weigh rfl
theorem dX9_weigh_255 : decode cX9_weigh 255 = .ok (.istore 8, 2) := o54 hcX9_weigh rfl
theorem dX9_weigh_257 : decode cX9_weigh 257 = .ok (.aload_n 0, 1) := o42 hcX9_weigh rfl
theorem dX9_weigh_258 : decode cX9_weigh 258 = .ok (.dup, 1) := o89 hcX9_weigh rfl
theorem dX9_weigh_259 : decode cX9_weigh 259 = .ok (.getfield 55, 3) := o180 hcX9_weigh rfl
theorem dX9_weigh_262 : decode cX9_weigh 262 = .ok (.iload 9, 2) := o21 hcX9_weigh rfl
theorem dX9_weigh_264 : decode cX9_weigh 264 = .ok (.iconst 1, 1) := o4 hcX9_weigh rfl
theorem dX9_weigh_265 : decode cX9_weigh 265 = .ok (.iand, 1) := o126 hcX9_weigh rfl
theorem dX9_weigh_266 : decode cX9_weigh 266 = .ok (.iload 12, 2) := o21 hcX9_weigh rfl
theorem dX9_weigh_268 : decode cX9_weigh 268 = .ok (.imul, 1) := o104 hcX9_weigh rfl
theorem dX9_weigh_269 : decode cX9_weigh 269 = .ok (.iadd, 1) := o96 hcX9_weigh rfl
theorem dX9_weigh_270 : decode cX9_weigh 270 = .ok (.putfield 55, 3) := o181 hcX9_weigh rfl
theorem dX9_weigh_273 : decode cX9_weigh 273 = .ok (.iload 9, 2) := o21 hcX9_weigh rfl
theorem dX9_weigh_275 : decode cX9_weigh 275 = .ok (.iconst 1, 1) := o4 hcX9_weigh rfl
theorem dX9_weigh_276 : decode cX9_weigh 276 = .ok (.ishr, 1) := o122 hcX9_weigh rfl
theorem dX9_weigh_277 : decode cX9_weigh 277 = .ok (.istore 9, 2) := o54 hcX9_weigh rfl
theorem dX9_weigh_279 : decode cX9_weigh 279 = .ok (.goto 26, 3) := o167 hcX9_weigh (a := 26) rfl rfl
theorem dX9_weigh_282 : decode cX9_weigh 282 = .ok (.iload 9, 2) := o21 hcX9_weigh rfl
theorem dX9_weigh_284 : decode cX9_weigh 284 = .ok (.iconst 1, 1) := o4 hcX9_weigh rfl
theorem dX9_weigh_285 : decode cX9_weigh 285 = .ok (.ishl, 1) := o120 hcX9_weigh rfl
theorem dX9_weigh_286 : decode cX9_weigh 286 = .ok (.aload_n 0, 1) := o42 hcX9_weigh rfl
theorem dX9_weigh_287 : decode cX9_weigh 287 = .ok (.iload 11, 2) := o21 hcX9_weigh rfl
theorem dX9_weigh_289 : decode cX9_weigh 289 = .ok (.iload 12, 2) := o21 hcX9_weigh rfl
theorem dX9_weigh_291 : decode cX9_weigh 291 = .ok (.invokevirtual 58, 3) := o182 hcX9_weigh rfl
theorem dX9_weigh_294 : decode cX9_weigh 294 = .ok (.ifCond .eq 7, 3) := o153 hcX9_weigh (a := 7) rfl rfl
theorem dX9_weigh_297 : decode cX9_weigh 297 = .ok (.iconst 1, 1) := o4 hcX9_weigh rfl
theorem dX9_weigh_298 : decode cX9_weigh 298 = .ok (.goto 4, 3) := o167 hcX9_weigh (a := 4) rfl rfl
theorem dX9_weigh_301 : decode cX9_weigh 301 = .ok (.iconst 0, 1) := o3 hcX9_weigh rfl
theorem dX9_weigh_302 : decode cX9_weigh 302 = .ok (.ior, 1) := o128 hcX9_weigh rfl
theorem dX9_weigh_303 : decode cX9_weigh 303 = .ok (.istore 9, 2) := o54 hcX9_weigh rfl
theorem dX9_weigh_305 : decode cX9_weigh 305 = .ok (.iinc 10 1, 3) := o132 hcX9_weigh (b := 1) rfl rfl
theorem dX9_weigh_308 : decode cX9_weigh 308 = .ok (.goto (-192), 3) := o167 hcX9_weigh (a := 65344) rfl rfl
theorem dX9_weigh_311 : decode cX9_weigh 311 = .ok (.aload_n 0, 1) := o42 hcX9_weigh rfl
theorem dX9_weigh_312 : decode cX9_weigh 312 = .ok (.iload 7, 2) := o21 hcX9_weigh rfl
theorem dX9_weigh_314 : decode cX9_weigh 314 = .ok (.ifCond .eq 10, 3) := o153 hcX9_weigh (a := 10) rfl rfl
theorem dX9_weigh_317 : decode cX9_weigh 317 = .ok (.aload_n 0, 1) := o42 hcX9_weigh rfl
theorem dX9_weigh_318 : decode cX9_weigh 318 = .ok (.getfield 52, 3) := o180 hcX9_weigh rfl
theorem dX9_weigh_321 : decode cX9_weigh 321 = .ok (.goto 4, 3) := o167 hcX9_weigh (a := 4) rfl rfl
theorem dX9_weigh_324 : decode cX9_weigh 324 = .ok (.iconst 5, 1) := o8 hcX9_weigh rfl
theorem dX9_weigh_325 : decode cX9_weigh 325 = .ok (.putfield 52, 3) := o181 hcX9_weigh rfl
theorem dX9_weigh_328 : decode cX9_weigh 328 = .ok (.aload_n 0, 1) := o42 hcX9_weigh rfl
theorem dX9_weigh_329 : decode cX9_weigh 329 = .ok (.iload 8, 2) := o21 hcX9_weigh rfl
theorem dX9_weigh_331 : decode cX9_weigh 331 = .ok (.ifCond .eq 10, 3) := o153 hcX9_weigh (a := 10) rfl rfl
theorem dX9_weigh_334 : decode cX9_weigh 334 = .ok (.aload_n 0, 1) := o42 hcX9_weigh rfl
theorem dX9_weigh_335 : decode cX9_weigh 335 = .ok (.getfield 55, 3) := o180 hcX9_weigh rfl
theorem dX9_weigh_338 : decode cX9_weigh 338 = .ok (.goto 4, 3) := o167 hcX9_weigh (a := 4) rfl rfl
theorem dX9_weigh_341 : decode cX9_weigh 341 = .ok (.iconst 3, 1) := o6 hcX9_weigh rfl
theorem dX9_weigh_342 : decode cX9_weigh 342 = .ok (.putfield 55, 3) := o181 hcX9_weigh rfl
theorem dX9_weigh_345 : decode cX9_weigh 345 = .ok (.return_, 1) := o177 hcX9_weigh rfl
theorem dX9_holds_0 : decode cX9_holds 0 = .ok (.iload_n 1, 1) := o27 hcX9_holds rfl
theorem dX9_holds_1 : decode cX9_holds 1 = .ok (.iconst 3, 1) := o6 hcX9_holds rfl
theorem dX9_holds_2 : decode cX9_holds 2 = .ok (.idiv, 1) := o108 hcX9_holds rfl
theorem dX9_holds_3 : decode cX9_holds 3 = .ok (.istore_n 3, 1) := o62 hcX9_holds rfl
theorem dX9_holds_4 : decode cX9_holds 4 = .ok (.iload_n 3, 1) := o29 hcX9_holds rfl
theorem dX9_holds_5 : decode cX9_holds 5 = .ok (.ifCond .lt 21, 3) := o155 hcX9_holds (a := 21) rfl rfl
theorem dX9_holds_8 : decode cX9_holds 8 = .ok (.iload_n 3, 1) := o29 hcX9_holds rfl
theorem dX9_holds_9 : decode cX9_holds 9 = .ok (.aload_n 0, 1) := o42 hcX9_holds rfl
theorem dX9_holds_10 : decode cX9_holds 10 = .ok (.getfield 25, 3) := o180 hcX9_holds rfl
theorem dX9_holds_13 : decode cX9_holds 13 = .ok (.arraylength, 1) := o190 hcX9_holds rfl
theorem dX9_holds_14 : decode cX9_holds 14 = .ok (.if_icmp .ge 12, 3) := o162 hcX9_holds (a := 12) rfl rfl
theorem dX9_holds_17 : decode cX9_holds 17 = .ok (.aload_n 0, 1) := o42 hcX9_holds rfl
theorem dX9_holds_18 : decode cX9_holds 18 = .ok (.getfield 25, 3) := o180 hcX9_holds rfl
theorem dX9_holds_21 : decode cX9_holds 21 = .ok (.iload_n 3, 1) := o29 hcX9_holds rfl
theorem dX9_holds_22 : decode cX9_holds 22 = .ok (.iaload, 1) := o46 hcX9_holds rfl
theorem dX9_holds_23 : decode cX9_holds 23 = .ok (.goto 4, 3) := o167 hcX9_holds (a := 4) rfl rfl
theorem dX9_holds_26 : decode cX9_holds 26 = .ok (.iconst 0, 1) := o3 hcX9_holds rfl
theorem dX9_holds_27 : decode cX9_holds 27 = .ok (.istore 4, 2) := o54 hcX9_holds rfl
theorem dX9_holds_29 : decode cX9_holds 29 = .ok (.iload_n 1, 1) := o27 hcX9_holds rfl
theorem dX9_holds_30 : decode cX9_holds 30 = .ok (.iconst 3, 1) := o6 hcX9_holds rfl
theorem dX9_holds_31 : decode cX9_holds 31 = .ok (.irem, 1) := o112 hcX9_holds rfl
theorem dX9_holds_32 : decode cX9_holds 32 = .ok (.lookupswitch 52 #[(0, 28), (1, 40)], 28) := by decide +kernel
theorem dX9_holds_60 : decode cX9_holds 60 = .ok (.iload 4, 2) := o21 hcX9_holds rfl
theorem dX9_holds_62 : decode cX9_holds 62 = .ok (.iload_n 2, 1) := o28 hcX9_holds rfl
theorem dX9_holds_63 : decode cX9_holds 63 = .ok (.if_icmp .ge 7, 3) := o162 hcX9_holds (a := 7) rfl rfl
theorem dX9_holds_66 : decode cX9_holds 66 = .ok (.iconst 1, 1) := o4 hcX9_holds rfl
theorem dX9_holds_67 : decode cX9_holds 67 = .ok (.goto 4, 3) := o167 hcX9_holds (a := 4) rfl rfl
theorem dX9_holds_70 : decode cX9_holds 70 = .ok (.iconst 0, 1) := o3 hcX9_holds rfl
theorem dX9_holds_71 : decode cX9_holds 71 = .ok (.ireturn, 1) := o172 hcX9_holds rfl
theorem dX9_holds_72 : decode cX9_holds 72 = .ok (.iload 4, 2) := o21 hcX9_holds rfl
theorem dX9_holds_74 : decode cX9_holds 74 = .ok (.iload_n 2, 1) := o28 hcX9_holds rfl
theorem dX9_holds_75 : decode cX9_holds 75 = .ok (.if_icmp .ne 7, 3) := o160 hcX9_holds (a := 7) rfl rfl
theorem dX9_holds_78 : decode cX9_holds 78 = .ok (.iconst 1, 1) := o4 hcX9_holds rfl
theorem dX9_holds_79 : decode cX9_holds 79 = .ok (.goto 4, 3) := o167 hcX9_holds (a := 4) rfl rfl
theorem dX9_holds_82 : decode cX9_holds 82 = .ok (.iconst 0, 1) := o3 hcX9_holds rfl
theorem dX9_holds_83 : decode cX9_holds 83 = .ok (.ireturn, 1) := o172 hcX9_holds rfl
theorem dX9_holds_84 : decode cX9_holds 84 = .ok (.iload 4, 2) := o21 hcX9_holds rfl
theorem dX9_holds_86 : decode cX9_holds 86 = .ok (.iload_n 2, 1) := o28 hcX9_holds rfl
theorem dX9_holds_87 : decode cX9_holds 87 = .ok (.if_icmp .le 7, 3) := o164 hcX9_holds (a := 7) rfl rfl
theorem dX9_holds_90 : decode cX9_holds 90 = .ok (.iconst 1, 1) := o4 hcX9_holds rfl
theorem dX9_holds_91 : decode cX9_holds 91 = .ok (.goto 4, 3) := o167 hcX9_holds (a := 4) rfl rfl
theorem dX9_holds_94 : decode cX9_holds 94 = .ok (.iconst 0, 1) := o3 hcX9_holds rfl
theorem dX9_holds_95 : decode cX9_holds 95 = .ok (.ireturn, 1) := o172 hcX9_holds rfl
