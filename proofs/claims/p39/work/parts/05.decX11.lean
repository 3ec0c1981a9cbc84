theorem dX11_init_0 : decode cX11_init 0 = .ok (.aload_n 0, 1) := o42 hcX11_init rfl
theorem dX11_init_1 : decode cX11_init 1 = .ok (.invokespecial 1, 3) := o183 hcX11_init rfl
theorem dX11_init_4 : decode cX11_init 4 = .ok (.aload_n 0, 1) := o42 hcX11_init rfl
theorem dX11_init_5 : decode cX11_init 5 = .ok (.iconst 0, 1) := o3 hcX11_init rfl
theorem dX11_init_6 : decode cX11_init 6 = .ok (.putfield 7, 3) := o181 hcX11_init rfl
theorem dX11_init_9 : decode cX11_init 9 = .ok (.aload_n 0, 1) := o42 hcX11_init rfl
theorem dX11_init_10 : decode cX11_init 10 = .ok (.iconst 0, 1) := o3 hcX11_init rfl
theorem dX11_init_11 : decode cX11_init 11 = .ok (.putfield 13, 3) := o181 hcX11_init rfl
theorem dX11_init_14 : decode cX11_init 14 = .ok (.aload_n 0, 1) := o42 hcX11_init rfl
theorem dX11_init_15 : decode cX11_init 15 = .ok (.bipush 6, 2) := o16 hcX11_init (a := 6) rfl rfl
theorem dX11_init_17 : decode cX11_init 17 = .ok (.newarray .int, 2) := by decide +kernel
theorem dX11_init_19 : decode cX11_init 19 = .ok (.putfield 16, 3) := o181 hcX11_init rfl
theorem dX11_init_22 : decode cX11_init 22 = .ok (.aload_n 0, 1) := o42 hcX11_init rfl
theorem dX11_init_23 : decode cX11_init 23 = .ok (.bipush 6, 2) := o16 hcX11_init (a := 6) rfl rfl
theorem dX11_init_25 : decode cX11_init 25 = .ok (.newarray .int, 2) := by decide +kernel
theorem dX11_init_27 : decode cX11_init 27 = .ok (.putfield 20, 3) := o181 hcX11_init rfl
theorem dX11_init_30 : decode cX11_init 30 = .ok (.aload_n 0, 1) := o42 hcX11_init rfl
theorem dX11_init_31 : decode cX11_init 31 = .ok (.bipush 6, 2) := o16 hcX11_init (a := 6) rfl rfl
theorem dX11_init_33 : decode cX11_init 33 = .ok (.newarray .int, 2) := by decide +kernel
theorem dX11_init_35 : decode cX11_init 35 = .ok (.putfield 23, 3) := o181 hcX11_init rfl
theorem dX11_init_38 : decode cX11_init 38 = .ok (.aload_n 0, 1) := o42 hcX11_init rfl
theorem dX11_init_39 : decode cX11_init 39 = .ok (.bipush 6, 2) := o16 hcX11_init (a := 6) rfl rfl
theorem dX11_init_41 : decode cX11_init 41 = .ok (.newarray .int, 2) := by decide +kernel
theorem dX11_init_43 : decode cX11_init 43 = .ok (.putfield 26, 3) := o181 hcX11_init rfl
theorem dX11_init_46 : decode cX11_init 46 = .ok (.aload_n 0, 1) := o42 hcX11_init rfl
theorem dX11_init_47 : decode cX11_init 47 = .ok (.bipush 24, 2) := o16 hcX11_init (a := 24) rfl rfl
theorem dX11_init_49 : decode cX11_init 49 = .ok (.newarray .int, 2) := by decide +kernel
theorem dX11_init_51 : decode cX11_init 51 = .ok (.putfield 29, 3) := o181 hcX11_init rfl
theorem dX11_init_54 : decode cX11_init 54 = .ok (.aload_n 0, 1) := o42 hcX11_init rfl
theorem dX11_init_55 : decode cX11_init 55 = .ok (.iconst 4, 1) := o7 hcX11_init rfl
theorem dX11_init_56 : decode cX11_init 56 = .ok (.newarray .int, 2) := by decide +kernel
theorem dX11_init_58 : decode cX11_init 58 = .ok (.putfield 32, 3) := o181 hcX11_init rfl
theorem dX11_init_61 : decode cX11_init 61 = .ok (.aload_n 0, 1) := o42 hcX11_init rfl
theorem dX11_init_62 : decode cX11_init 62 = .ok (.iconst 4, 1) := o7 hcX11_init rfl
theorem dX11_init_63 : decode cX11_init 63 = .ok (.newarray .int, 2) := by decide +kernel
theorem dX11_init_65 : decode cX11_init 65 = .ok (.putfield 35, 3) := o181 hcX11_init rfl
theorem dX11_init_68 : decode cX11_init 68 = .ok (.aload_n 0, 1) := o42 hcX11_init rfl
theorem dX11_init_69 : decode cX11_init 69 = .ok (.iconst 4, 1) := o7 hcX11_init rfl
theorem dX11_init_70 : decode cX11_init 70 = .ok (.newarray .int, 2) := by decide +kernel
theorem dX11_init_72 : decode cX11_init 72 = .ok (.putfield 38, 3) := o181 hcX11_init rfl
theorem dX11_init_75 : decode cX11_init 75 = .ok (.aload_n 0, 1) := o42 hcX11_init rfl
theorem dX11_init_76 : decode cX11_init 76 = .ok (.iconst 0, 1) := o3 hcX11_init rfl
theorem dX11_init_77 : decode cX11_init 77 = .ok (.putfield 41, 3) := o181 hcX11_init rfl
theorem dX11_init_80 : decode cX11_init 80 = .ok (.aload_n 0, 1) := o42 hcX11_init rfl
theorem dX11_init_81 : decode cX11_init 81 = .ok (.iconst (-1), 1) := o2 hcX11_init rfl
theorem dX11_init_82 : decode cX11_init 82 = .ok (.putfield 44, 3) := o181 hcX11_init rfl
theorem dX11_init_85 : decode cX11_init 85 = .ok (.aload_n 0, 1) := o42 hcX11_init rfl
theorem dX11_init_86 : decode cX11_init 86 = .ok (.iconst 0, 1) := o3 hcX11_init rfl
theorem dX11_init_87 : decode cX11_init 87 = .ok (.putfield 47, 3) := o181 hcX11_init rfl
theorem dX11_init_90 : decode cX11_init 90 = .ok (.aload_n 0, 1) := o42 hcX11_init rfl
theorem dX11_init_91 : decode cX11_init 91 = .ok (.iconst 0, 1) := o3 hcX11_init rfl
theorem dX11_init_92 : decode cX11_init 92 = .ok (.putfield 50, 3) := o181 hcX11_init rfl
theorem dX11_init_95 : decode cX11_init 95 = .ok (.aload_n 0, 1) := o42 hcX11_init rfl
theorem dX11_init_96 : decode cX11_init 96 = .ok (.iconst 0, 1) := o3 hcX11_init rfl
theorem dX11_init_97 : decode cX11_init 97 = .ok (.putfield 53, 3) := o181 hcX11_init rfl
theorem dX11_init_100 : decode cX11_init 100 = .ok (.aload_n 0, 1) := o42 hcX11_init rfl
theorem dX11_init_101 : decode cX11_init 101 = .ok (.bipush 100, 2) := o16 hcX11_init (a := 100) rfl rfl
theorem dX11_init_103 : decode cX11_init 103 = .ok (.newarray .int, 2) := by decide +kernel
theorem dX11_init_105 : decode cX11_init 105 = .ok (.putfield 56, 3) := o181 hcX11_init rfl
theorem dX11_init_108 : decode cX11_init 108 = .ok (.aload_n 0, 1) := o42 hcX11_init rfl
theorem dX11_init_109 : decode cX11_init 109 = .ok (.bipush 6, 2) := o16 hcX11_init (a := 6) rfl rfl
theorem dX11_init_111 : decode cX11_init 111 = .ok (.newarray .int, 2) := by decide +kernel
theorem dX11_init_113 : decode cX11_init 113 = .ok (.putfield 59, 3) := o181 hcX11_init rfl
theorem dX11_init_116 : decode cX11_init 116 = .ok (.aload_n 0, 1) := o42 hcX11_init rfl
theorem dX11_init_117 : decode cX11_init 117 = .ok (.bipush 60, 2) := o16 hcX11_init (a := 60) rfl rfl
theorem dX11_init_119 : decode cX11_init 119 = .ok (.newarray .int, 2) := by decide +kernel
theorem dX11_init_121 : decode cX11_init 121 = .ok (.putfield 62, 3) := o181 hcX11_init rfl
theorem dX11_init_124 : decode cX11_init 124 = .ok (.aload_n 0, 1) := o42 hcX11_init rfl
theorem dX11_init_125 : decode cX11_init 125 = .ok (.bipush 60, 2) := o16 hcX11_init (a := 60) rfl rfl
theorem dX11_init_127 : decode cX11_init 127 = .ok (.newarray .int, 2) := by decide +kernel
theorem dX11_init_129 : decode cX11_init 129 = .ok (.putfield 65, 3) := o181 hcX11_init rfl
theorem dX11_init_132 : decode cX11_init 132 = .ok (.aload_n 0, 1) := o42 hcX11_init rfl
theorem dX11_init_133 : decode cX11_init 133 = .ok (.bipush 60, 2) := o16 hcX11_init (a := 60) rfl rfl
theorem dX11_init_135 : decode cX11_init 135 = .ok (.newarray .int, 2) := by decide +kernel
theorem dX11_init_137 : decode cX11_init 137 = .ok (.putfield 68, 3) := o181 hcX11_init rfl
theorem dX11_init_140 : decode cX11_init 140 = .ok (.aload_n 0, 1) := o42 hcX11_init rfl
theorem dX11_init_141 : decode cX11_init 141 = .ok (.bipush 60, 2) := o16 hcX11_init (a := 60) rfl rfl
theorem dX11_init_143 : decode cX11_init 143 = .ok (.newarray .int, 2) := by decide +kernel
theorem dX11_init_145 : decode cX11_init 145 = .ok (.putfield 71, 3) := o181 hcX11_init rfl
theorem dX11_init_148 : decode cX11_init 148 = .ok (.aload_n 0, 1) := o42 hcX11_init rfl
theorem dX11_init_149 : decode cX11_init 149 = .ok (.sipush 600, 3) := o17 hcX11_init (a := 600) rfl rfl
theorem dX11_init_152 : decode cX11_init 152 = .ok (.newarray .int, 2) := by decide +kernel
theorem dX11_init_154 : decode cX11_init 154 = .ok (.putfield 74, 3) := o181 hcX11_init rfl
theorem dX11_init_157 : decode cX11_init 157 = .ok (.aload_n 0, 1) := o42 hcX11_init rfl
theorem dX11_init_158 : decode cX11_init 158 = .ok (.bipush 101, 2) := o16 hcX11_init (a := 101) rfl rfl
theorem dX11_init_160 : decode cX11_init 160 = .ok (.newarray .int, 2) := by decide +kernel
theorem dX11_init_162 : decode cX11_init 162 = .ok (.putfield 77, 3) := o181 hcX11_init rfl
theorem dX11_init_165 : decode cX11_init 165 = .ok (.aload_n 0, 1) := o42 hcX11_init rfl
theorem dX11_init_166 : decode cX11_init 166 = .ok (.iconst 0, 1) := o3 hcX11_init rfl
theorem dX11_init_167 : decode cX11_init 167 = .ok (.putfield 80, 3) := o181 hcX11_init rfl
theorem dX11_init_170 : decode cX11_init 170 = .ok (.aload_n 0, 1) := o42 hcX11_init rfl
theorem dX11_init_171 : decode cX11_init 171 = .ok (.iconst 0, 1) := o3 hcX11_init rfl
theorem dX11_init_172 : decode cX11_init 172 = .ok (.putfield 83, 3) := o181 hcX11_init rfl
theorem dX11_init_175 : decode cX11_init 175 = .ok (.aload_n 0, 1) := o42 hcX11_init rfl
theorem dX11_init_176 : decode cX11_init 176 = .ok (.iconst 0, 1) := o3 hcX11_init rfl
theorem dX11_init_177 : decode cX11_init 177 = .ok (.putfield 86, 3) := o181 hcX11_init rfl
theorem dX11_init_180 : decode cX11_init 180 = .ok (.aload_n 0, 1) := o42 hcX11_init rfl
theorem dX11_init_181 : decode cX11_init 181 = .ok (.bipush 13, 2) := o16 hcX11_init (a := 13) rfl rfl
theorem dX11_init_183 : decode cX11_init 183 = .ok (.newarray .int, 2) := by decide +kernel
theorem dX11_init_185 : decode cX11_init 185 = .ok (.dup, 1) := o89 hcX11_init rfl
theorem dX11_init_186 : decode cX11_init 186 = .ok (.iconst 0, 1) := o3 hcX11_init rfl
theorem dX11_init_187 : decode cX11_init 187 = .ok (.bipush 99, 2) := o16 hcX11_init (a := 99) rfl rfl
theorem dX11_init_189 : decode cX11_init 189 = .ok (.iastore, 1) := o79 hcX11_init rfl
theorem dX11_init_190 : decode cX11_init 190 = .ok (.dup, 1) := o89 hcX11_init rfl
theorem dX11_init_191 : decode cX11_init 191 = .ok (.iconst 1, 1) := o4 hcX11_init rfl
theorem dX11_init_192 : decode cX11_init 192 = .ok (.bipush 111, 2) := o16 hcX11_init (a := 111) rfl rfl
theorem dX11_init_194 : decode cX11_init 194 = .ok (.iastore, 1) := o79 hcX11_init rfl
theorem dX11_init_195 : decode cX11_init 195 = .ok (.dup, 1) := o89 hcX11_init rfl
theorem dX11_init_196 : decode cX11_init 196 = .ok (.iconst 2, 1) := o5 hcX11_init rfl
theorem dX11_init_197 : decode cX11_init 197 = .ok (.bipush 117, 2) := o16 hcX11_init (a := 117) rfl rfl
theorem dX11_init_199 : decode cX11_init 199 = .ok (.iastore, 1) := o79 hcX11_init rfl
theorem dX11_init_200 : decode cX11_init 200 = .ok (.dup, 1) := o89 hcX11_init rfl
theorem dX11_init_201 : decode cX11_init 201 = .ok (.iconst 3, 1) := o6 hcX11_init rfl
theorem dX11_init_202 : decode cX11_init 202 = .ok (.bipush 110, 2) := o16 hcX11_init (a := 110) rfl rfl
theorem dX11_init_204 : decode cX11_init 204 = .ok (.iastore, 1) := o79 hcX11_init rfl
theorem dX11_init_205 : decode cX11_init 205 = .ok (.dup, 1) := o89 hcX11_init rfl
theorem dX11_init_206 : decode cX11_init 206 = .ok (.iconst 4, 1) := o7 hcX11_init rfl
theorem dX11_init_207 : decode cX11_init 207 = .ok (.bipush 116, 2) := o16 hcX11_init (a := 116) rfl rfl
theorem dX11_init_209 : decode cX11_init 209 = .ok (.iastore, 1) := o79 hcX11_init rfl
theorem dX11_init_210 : decode cX11_init 210 = .ok (.dup, 1) := o89 hcX11_init rfl
theorem dX11_init_211 : decode cX11_init 211 = .ok (.iconst 5, 1) := o8 hcX11_init rfl
theorem dX11_init_212 : decode cX11_init 212 = .ok (.bipush 119, 2) := o16 hcX11_init (a := 119) rfl rfl
theorem dX11_init_214 : decode cX11_init 214 = .ok (.iastore, 1) := o79 hcX11_init rfl
theorem dX11_init_215 : decode cX11_init 215 = .ok (.dup, 1) := o89 hcX11_init rfl
theorem dX11_init_216 : decode cX11_init 216 = .ok (.bipush 6, 2) := o16 hcX11_init (a := 6) rfl rfl
theorem dX11_init_218 : decode cX11_init 218 = .ok (.bipush 97, 2) := o16 hcX11_init (a := 97) rfl rfl
theorem dX11_init_220 : decode cX11_init 220 = .ok (.iastore, 1) := o79 hcX11_init rfl
theorem dX11_init_221 : decode cX11_init 221 = .ok (.dup, 1) := o89 hcX11_init rfl
theorem dX11_init_222 : decode cX11_init 222 = .ok (.bipush 7, 2) := o16 hcX11_init (a := 7) rfl rfl
theorem dX11_init_224 : decode cX11_init 224 = .ok (.bipush 108, 2) := o16 hcX11_init (a := 108) rfl rfl
theorem dX11_init_226 : decode cX11_init 226 = .ok (.iastore, 1) := o79 hcX11_init rfl
theorem dX11_init_227 : decode cX11_init 227 = .ok (.dup, 1) := o89 hcX11_init rfl
theorem dX11_init_228 : decode cX11_init 228 = .ok (.bipush 8, 2) := o16 hcX11_init (a := 8) rfl rfl
theorem dX11_init_230 : decode cX11_init 230 = .ok (.bipush 107, 2) := o16 hcX11_init (a := 107) rfl rfl
theorem dX11_init_232 : decode cX11_init 232 = .ok (.iastore, 1) := o79 hcX11_init rfl
theorem dX11_init_233 : decode cX11_init 233 = .ok (.dup, 1) := o89 hcX11_init rfl
theorem dX11_init_234 : decode cX11_init 234 = .ok (.bipush 9, 2) := o16 hcX11_init (a := 9) rfl rfl
theorem dX11_init_236 : decode cX11_init 236 = .ok (.bipush 100, 2) := o16 hcX11_init (a := 100) rfl rfl
theorem dX11_init_238 : decode cX11_init 238 = .ok (.iastore, 1) := o79 hcX11_init rfl
theorem dX11_init_239 : decode cX11_init 239 = .ok (.dup, 1) := o89 hcX11_init rfl
theorem dX11_init_240 : decode cX11_init 240 = .ok (.bipush 10, 2) := o16 hcX11_init (a := 10) rfl rfl
theorem dX11_init_242 : decode cX11_init 242 = .ok (.bipush 97, 2) := o16 hcX11_init (a := 97) rfl rfl
theorem dX11_init_244 : decode cX11_init 244 = .ok (.iastore, 1) := o79 hcX11_init rfl
theorem dX11_init_245 : decode cX11_init 245 = .ok (.dup, 1) := o89 hcX11_init rfl
theorem dX11_init_246 : decode cX11_init 246 = .ok (.bipush 11, 2) := o16 hcX11_init (a := 11) rfl rfl
theorem dX11_init_248 : decode cX11_init 248 = .ok (.bipush 119, 2) := o16 hcX11_init (a := 119) rfl rfl
theorem dX11_init_250 : decode cX11_init 250 = .ok (.iastore, 1) := o79 hcX11_init rfl
theorem dX11_init_251 : decode cX11_init 251 = .ok (.dup, 1) := o89 hcX11_init rfl
theorem dX11_init_252 : decode cX11_init 252 = .ok (.bipush 12, 2) := o16 hcX11_init (a := 12) rfl rfl
theorem dX11_init_254 : decode cX11_init 254 = .ok (.bipush 110, 2) := o16 hcX11_init (a := 110) rfl rfl
theorem dX11_init_256 : decode cX11_init 256 = .ok (.iastore, 1) := o79 hcX11_init rfl
theorem dX11_init_257 : decode cX11_init 257 = .ok (.putfield 89, 3) := o181 hcX11_init rfl
theorem dX11_init_260 : decode cX11_init 260 = .ok (.aload_n 0, 1) := o42 hcX11_init rfl
theorem dX11_init_261 : decode cX11_init 261 = .ok (.bipush 100, 2) := o16 hcX11_init (a := 100) rfl rfl
theorem dX11_init_263 : decode cX11_init 263 = .ok (.newarray .boolean, 2) := by decide +kernel
theorem dX11_init_265 : decode cX11_init 265 = .ok (.putfield 92, 3) := o181 hcX11_init rfl
theorem dX11_init_268 : decode cX11_init 268 = .ok (.aload_n 0, 1) := o42 hcX11_init rfl
theorem dX11_init_269 : decode cX11_init 269 = .ok (.iconst 0, 1) := o3 hcX11_init rfl
theorem dX11_init_270 : decode cX11_init 270 = .ok (.putfield 96, 3) := o181 hcX11_init rfl
theorem dX11_init_273 : decode cX11_init 273 = .ok (.aload_n 0, 1) := o42 hcX11_init rfl
theorem dX11_init_274 : decode cX11_init 274 = .ok (.iconst 0, 1) := o3 hcX11_init rfl
theorem dX11_init_275 : decode cX11_init 275 = .ok (.putfield 99, 3) := o181 hcX11_init rfl
theorem dX11_init_278 : decode cX11_init 278 = .ok (.aload_n 0, 1) := o42 hcX11_init rfl
theorem dX11_init_279 : decode cX11_init 279 = .ok (.iconst 0, 1) := o3 hcX11_init rfl
theorem dX11_init_280 : decode cX11_init 280 = .ok (.putfield 102, 3) := o181 hcX11_init rfl
theorem dX11_init_283 : decode cX11_init 283 = .ok (.aload_n 0, 1) := o42 hcX11_init rfl
theorem dX11_init_284 : decode cX11_init 284 = .ok (.iconst 0, 1) := o3 hcX11_init rfl
theorem dX11_init_285 : decode cX11_init 285 = .ok (.putfield 105, 3) := o181 hcX11_init rfl
theorem dX11_init_288 : decode cX11_init 288 = .ok (.aload_n 0, 1) := o42 hcX11_init rfl
theorem dX11_init_289 : decode cX11_init 289 = .ok (.iconst 0, 1) := o3 hcX11_init rfl
theorem dX11_init_290 : decode cX11_init 290 = .ok (.putfield 108, 3) := o181 hcX11_init rfl
theorem dX11_init_293 : decode cX11_init 293 = .ok (.aload_n 0, 1) := o42 hcX11_init rfl
theorem dX11_init_294 : decode cX11_init 294 = .ok (.iconst 0, 1) := o3 hcX11_init rfl
theorem dX11_init_295 : decode cX11_init 295 = .ok (.putfield 111, 3) := o181 hcX11_init rfl
theorem dX11_init_298 : decode cX11_init 298 = .ok (.aload_n 0, 1) := o42 hcX11_init rfl
theorem dX11_init_299 : decode cX11_init 299 = .ok (.iconst 0, 1) := o3 hcX11_init rfl
theorem dX11_init_300 : decode cX11_init 300 = .ok (.putfield 114, 3) := o181 hcX11_init rfl
theorem dX11_init_303 : decode cX11_init 303 = .ok (.aload_n 0, 1) := o42 hcX11_init rfl
theorem dX11_init_304 : decode cX11_init 304 = .ok (.bipush 8, 2) := o16 hcX11_init (a := 8) rfl rfl
theorem dX11_init_306 : decode cX11_init 306 = .ok (.newarray .int, 2) := by decide +kernel
theorem dX11_init_308 : decode cX11_init 308 = .ok (.putfield 117, 3) := o181 hcX11_init rfl
theorem dX11_init_311 : decode cX11_init 311 = .ok (.aload_n 0, 1) := o42 hcX11_init rfl
theorem dX11_init_312 : decode cX11_init 312 = .ok (.iconst 5, 1) := o8 hcX11_init rfl
theorem dX11_init_313 : decode cX11_init 313 = .ok (.newarray .int, 2) := by decide +kernel
theorem dX11_init_315 : decode cX11_init 315 = .ok (.putfield 120, 3) := o181 hcX11_init rfl
theorem dX11_init_318 : decode cX11_init 318 = .ok (.aload_n 0, 1) := o42 hcX11_init rfl
theorem dX11_init_319 : decode cX11_init 319 = .ok (.iconst 5, 1) := o8 hcX11_init rfl
theorem dX11_init_320 : decode cX11_init 320 = .ok (.newarray .int, 2) := by decide +kernel
theorem dX11_init_322 : decode cX11_init 322 = .ok (.putfield 123, 3) := o181 hcX11_init rfl
theorem dX11_init_325 : decode cX11_init 325 = .ok (.aload_n 0, 1) := o42 hcX11_init rfl
theorem dX11_init_326 : decode cX11_init 326 = .ok (.iconst 0, 1) := o3 hcX11_init rfl
theorem dX11_init_327 : decode cX11_init 327 = .ok (.putfield 126, 3) := o181 hcX11_init rfl
theorem dX11_init_330 : decode cX11_init 330 = .ok (.aload_n 0, 1) := o42 hcX11_init rfl
theorem dX11_init_331 : decode cX11_init 331 = .ok (.bipush 8, 2) := o16 hcX11_init (a := 8) rfl rfl
theorem dX11_init_333 : decode cX11_init 333 = .ok (.newarray .int, 2) := by decide +kernel
theorem dX11_init_335 : decode cX11_init 335 = .ok (.putfield 129, 3) := o181 hcX11_init rfl
theorem dX11_init_338 : decode cX11_init 338 = .ok (.aload_n 0, 1) := o42 hcX11_init rfl
theorem dX11_init_339 : decode cX11_init 339 = .ok (.bipush 8, 2) := o16 hcX11_init (a := 8) rfl rfl
theorem dX11_init_341 : decode cX11_init 341 = .ok (.newarray .boolean, 2) := by decide +kernel
theorem dX11_init_343 : decode cX11_init 343 = .ok (.putfield 132, 3) := o181 hcX11_init rfl
theorem dX11_init_346 : decode cX11_init 346 = .ok (.aload_n 0, 1) := o42 hcX11_init rfl
theorem dX11_init_347 : decode cX11_init 347 = .ok (.iconst 0, 1) := o3 hcX11_init rfl
theorem dX11_init_348 : decode cX11_init 348 = .ok (.putfield 135, 3) := o181 hcX11_init rfl
theorem dX11_init_351 : decode cX11_init 351 = .ok (.aload_n 0, 1) := o42 hcX11_init rfl
theorem dX11_init_352 : decode cX11_init 352 = .ok (.bipush 12, 2) := o16 hcX11_init (a := 12) rfl rfl
theorem dX11_init_354 : decode cX11_init 354 = .ok (.newarray .int, 2) := by decide +kernel
theorem dX11_init_356 : decode cX11_init 356 = .ok (.putfield 138, 3) := o181 hcX11_init rfl
theorem dX11_init_359 : decode cX11_init 359 = .ok (.aload_n 0, 1) := o42 hcX11_init rfl
theorem dX11_init_360 : decode cX11_init 360 = .ok (.bipush 12, 2) := o16 hcX11_init (a := 12) rfl rfl
theorem dX11_init_362 : decode cX11_init 362 = .ok (.newarray .int, 2) := by decide +kernel
theorem dX11_init_364 : decode cX11_init 364 = .ok (.putfield 141, 3) := o181 hcX11_init rfl
theorem dX11_init_367 : decode cX11_init 367 = .ok (.aload_n 0, 1) := o42 hcX11_init rfl
theorem dX11_init_368 : decode cX11_init 368 = .ok (.iconst 0, 1) := o3 hcX11_init rfl
theorem dX11_init_369 : decode cX11_init 369 = .ok (.putfield 144, 3) := o181 hcX11_init rfl
theorem dX11_init_372 : decode cX11_init 372 = .ok (.aload_n 0, 1) := o42 hcX11_init rfl
theorem dX11_init_373 : decode cX11_init 373 = .ok (.iconst (-1), 1) := o2 hcX11_init rfl
theorem dX11_init_374 : decode cX11_init 374 = .ok (.putfield 148, 3) := o181 hcX11_init rfl
theorem dX11_init_377 : decode cX11_init 377 = .ok (.aload_n 0, 1) := o42 hcX11_init rfl
theorem dX11_init_378 : decode cX11_init 378 = .ok (.iconst 0, 1) := o3 hcX11_init rfl
theorem dX11_init_379 : decode cX11_init 379 = .ok (.putfield 151, 3) := o181 hcX11_init rfl
theorem dX11_init_382 : decode cX11_init 382 = .ok (.aload_n 0, 1) := o42 hcX11_init rfl
theorem dX11_init_383 : decode cX11_init 383 = .ok (.iconst 0, 1) := o3 hcX11_init rfl
theorem dX11_init_384 : decode cX11_init 384 = .ok (.putfield 154, 3) := o181 hcX11_init rfl
theorem dX11_init_387 : decode cX11_init 387 = .ok (.aload_n 0, 1) := o42 hcX11_init rfl
theorem dX11_init_388 : decode cX11_init 388 = .ok (.iconst 0, 1) := o3 hcX11_init rfl
theorem dX11_init_389 : decode cX11_init 389 = .ok (.putfield 157, 3) := o181 hcX11_init rfl
theorem dX11_init_392 : decode cX11_init 392 = .ok (.aload_n 0, 1) := o42 hcX11_init rfl
theorem dX11_init_393 : decode cX11_init 393 = .ok (.iconst 0, 1) := o3 hcX11_init rfl
theorem dX11_init_394 : decode cX11_init 394 = .ok (.putfield 160, 3) := o181 hcX11_init rfl
theorem dX11_init_397 : decode cX11_init 397 = .ok (.aload_n 0, 1) := o42 hcX11_init rfl
theorem dX11_init_398 : decode cX11_init 398 = .ok (.iconst 0, 1) := o3 hcX11_init rfl
theorem dX11_init_399 : decode cX11_init 399 = .ok (.putfield 163, 3) := o181 hcX11_init rfl
theorem dX11_init_402 : decode cX11_init 402 = .ok (.aload_n 0, 1) := o42 hcX11_init rfl
theorem dX11_init_403 : decode cX11_init 403 = .ok (.bipush 6, 2) := o16 hcX11_init (a := 6) rfl rfl
theorem dX11_init_405 : decode cX11_init 405 = .ok (.newarray .int, 2) := by decide +kernel
theorem dX11_init_407 : decode cX11_init 407 = .ok (.putfield 166, 3) := o181 hcX11_init rfl
theorem dX11_init_410 : decode cX11_init 410 = .ok (.aload_n 0, 1) := o42 hcX11_init rfl
theorem dX11_init_411 : decode cX11_init 411 = .ok (.bipush 6, 2) := o16 hcX11_init (a := 6) rfl rfl
theorem dX11_init_413 : decode cX11_init 413 = .ok (.newarray .int, 2) := by decide +kernel
theorem dX11_init_415 : decode cX11_init 415 = .ok (.putfield 169, 3) := o181 hcX11_init rfl
theorem dX11_init_418 : decode cX11_init 418 = .ok (.aload_n 0, 1) := o42 hcX11_init rfl
theorem dX11_init_419 : decode cX11_init 419 = .ok (.bipush 6, 2) := o16 hcX11_init (a := 6) rfl rfl
theorem dX11_init_421 : decode cX11_init 421 = .ok (.newarray .int, 2) := by decide +kernel
theorem dX11_init_423 : decode cX11_init 423 = .ok (.putfield 172, 3) := o181 hcX11_init rfl
theorem dX11_init_426 : decode cX11_init 426 = .ok (.aload_n 0, 1) := o42 hcX11_init rfl
theorem dX11_init_427 : decode cX11_init 427 = .ok (.bipush 6, 2) := o16 hcX11_init (a := 6) rfl rfl
theorem dX11_init_429 : decode cX11_init 429 = .ok (.newarray .int, 2) := by decide +kernel
theorem dX11_init_431 : decode cX11_init 431 = .ok (.putfield 175, 3) := o181 hcX11_init rfl
theorem dX11_init_434 : decode cX11_init 434 = .ok (.aload_n 0, 1) := o42 hcX11_init rfl
theorem dX11_init_435 : decode cX11_init 435 = .ok (.bipush 24, 2) := o16 hcX11_init (a := 24) rfl rfl
theorem dX11_init_437 : decode cX11_init 437 = .ok (.newarray .int, 2) := by decide +kernel
theorem dX11_init_439 : decode cX11_init 439 = .ok (.putfield 178, 3) := o181 hcX11_init rfl
theorem dX11_init_442 : decode cX11_init 442 = .ok (.aload_n 0, 1) := o42 hcX11_init rfl
theorem dX11_init_443 : decode cX11_init 443 = .ok (.iconst 4, 1) := o7 hcX11_init rfl
theorem dX11_init_444 : decode cX11_init 444 = .ok (.newarray .int, 2) := by decide +kernel
theorem dX11_init_446 : decode cX11_init 446 = .ok (.putfield 181, 3) := o181 hcX11_init rfl
theorem dX11_init_449 : decode cX11_init 449 = .ok (.aload_n 0, 1) := o42 hcX11_init rfl
theorem dX11_init_450 : decode cX11_init 450 = .ok (.iconst 4, 1) := o7 hcX11_init rfl
theorem dX11_init_451 : decode cX11_init 451 = .ok (.newarray .int, 2) := by decide +kernel
theorem dX11_init_453 : decode cX11_init 453 = .ok (.putfield 184, 3) := o181 hcX11_init rfl
theorem dX11_init_456 : decode cX11_init 456 = .ok (.aload_n 0, 1) := o42 hcX11_init rfl
theorem dX11_init_457 : decode cX11_init 457 = .ok (.iconst 4, 1) := o7 hcX11_init rfl
theorem dX11_init_458 : decode cX11_init 458 = .ok (.newarray .int, 2) := by decide +kernel
theorem dX11_init_460 : decode cX11_init 460 = .ok (.putfield 187, 3) := o181 hcX11_init rfl
theorem dX11_init_463 : decode cX11_init 463 = .ok (.aload_n 0, 1) := o42 hcX11_init rfl
theorem dX11_init_464 : decode cX11_init 464 = .ok (.bipush 8, 2) := o16 hcX11_init (a := 8) rfl rfl
theorem dX11_init_466 : decode cX11_init 466 = .ok (.newarray .int, 2) := by decide +kernel
theorem dX11_init_468 : decode cX11_init 468 = .ok (.putfield 190, 3) := o181 hcX11_init rfl
theorem dX11_init_471 : decode cX11_init 471 = .ok (.aload_n 0, 1) := o42 hcX11_init rfl
theorem dX11_init_472 : decode cX11_init 472 = .ok (.bipush 8, 2) := o16 hcX11_init (a := 8) rfl rfl
theorem dX11_init_474 : decode cX11_init 474 = .ok (.newarray .int, 2) := by decide +kernel
theorem dX11_init_476 : decode cX11_init 476 = .ok (.putfield 193, 3) := o181 hcX11_init rfl
theorem dX11_init_479 : decode cX11_init 479 = .ok (.aload_n 0, 1) := o42 hcX11_init rfl
theorem dX11_init_480 : decode cX11_init 480 = .ok (.bipush 12, 2) := o16 hcX11_init (a := 12) rfl rfl
theorem dX11_init_482 : decode cX11_init 482 = .ok (.newarray .int, 2) := by decide +kernel
theorem dX11_init_484 : decode cX11_init 484 = .ok (.putfield 196, 3) := o181 hcX11_init rfl
theorem dX11_init_487 : decode cX11_init 487 = .ok (.aload_n 0, 1) := o42 hcX11_init rfl
theorem dX11_init_488 : decode cX11_init 488 = .ok (.bipush 12, 2) := o16 hcX11_init (a := 12) rfl rfl
theorem dX11_init_490 : decode cX11_init 490 = .ok (.newarray .int, 2) := by decide +kernel
theorem dX11_init_492 : decode cX11_init 492 = .ok (.putfield 199, 3) := o181 hcX11_init rfl
theorem dX11_init_495 : decode cX11_init 495 = .ok (.aload_n 0, 1) := o42 hcX11_init rfl
theorem dX11_init_496 : decode cX11_init 496 = .ok (.bipush 8, 2) := o16 hcX11_init (a := 8) rfl rfl
theorem dX11_init_498 : decode cX11_init 498 = .ok (.newarray .boolean, 2) := by decide +kernel
theorem dX11_init_500 : decode cX11_init 500 = .ok (.putfield 202, 3) := o181 hcX11_init rfl
theorem dX11_init_503 : decode cX11_init 503 = .ok (.aload_n 0, 1) := o42 hcX11_init rfl
theorem dX11_init_504 : decode cX11_init 504 = .ok (.iconst 0, 1) := o3 hcX11_init rfl
theorem dX11_init_505 : decode cX11_init 505 = .ok (.putfield 205, 3) := o181 hcX11_init rfl
theorem dX11_init_508 : decode cX11_init 508 = .ok (.aload_n 0, 1) := o42 hcX11_init rfl
theorem dX11_init_509 : decode cX11_init 509 = .ok (.bipush 20, 2) := o16 hcX11_init (a := 20) rfl rfl
theorem dX11_init_511 : decode cX11_init 511 = .ok (.newarray .int, 2) := by decide +kernel
theorem dX11_init_513 : decode cX11_init 513 = .ok (.putfield 208, 3) := o181 hcX11_init rfl
theorem dX11_init_516 : decode cX11_init 516 = .ok (.aload_n 0, 1) := o42 hcX11_init rfl
theorem dX11_init_517 : decode cX11_init 517 = .ok (.bipush 6, 2) := o16 hcX11_init (a := 6) rfl rfl
theorem dX11_init_519 : decode cX11_init 519 = .ok (.newarray .int, 2) := by decide +kernel
theorem dX11_init_521 : decode cX11_init 521 = .ok (.dup, 1) := o89 hcX11_init rfl
theorem dX11_init_522 : decode cX11_init 522 = .ok (.iconst 0, 1) := o3 hcX11_init rfl
theorem dX11_init_523 : decode cX11_init 523 = .ok (.iconst (-1), 1) := o2 hcX11_init rfl
theorem dX11_init_524 : decode cX11_init 524 = .ok (.iastore, 1) := o79 hcX11_init rfl
theorem dX11_init_525 : decode cX11_init 525 = .ok (.dup, 1) := o89 hcX11_init rfl
theorem dX11_init_526 : decode cX11_init 526 = .ok (.iconst 1, 1) := o4 hcX11_init rfl
theorem dX11_init_527 : decode cX11_init 527 = .ok (.iconst (-1), 1) := o2 hcX11_init rfl
theorem dX11_init_528 : decode cX11_init 528 = .ok (.iastore, 1) := o79 hcX11_init rfl
theorem dX11_init_529 : decode cX11_init 529 = .ok (.dup, 1) := o89 hcX11_init rfl
theorem dX11_init_530 : decode cX11_init 530 = .ok (.iconst 2, 1) := o5 hcX11_init rfl
theorem dX11_init_531 : decode cX11_init 531 = .ok (.iconst (-1), 1) := o2 hcX11_init rfl
theorem dX11_init_532 : decode cX11_init 532 = .ok (.iastore, 1) := o79 hcX11_init rfl
theorem dX11_init_533 : decode cX11_init 533 = .ok (.dup, 1) := o89 hcX11_init rfl
theorem dX11_init_534 : decode cX11_init 534 = .ok (.iconst 3, 1) := o6 hcX11_init rfl
theorem dX11_init_535 : decode cX11_init 535 = .ok (.iconst (-1), 1) := o2 hcX11_init rfl
theorem dX11_init_536 : decode cX11_init 536 = .ok (.iastore, 1) := o79 hcX11_init rfl
theorem dX11_init_537 : decode cX11_init 537 = .ok (.dup, 1) := o89 hcX11_init rfl
theorem dX11_init_538 : decode cX11_init 538 = .ok (.iconst 4, 1) := o7 hcX11_init rfl
theorem dX11_init_539 : decode cX11_init 539 = .ok (.iconst (-1), 1) := o2 hcX11_init rfl
theorem dX11_init_540 : decode cX11_init 540 = .ok (.iastore, 1) := o79 hcX11_init rfl
theorem dX11_init_541 : decode cX11_init 541 = .ok (.dup, 1) := o89 hcX11_init rfl
theorem dX11_init_542 : decode cX11_init 542 = .ok (.iconst 5, 1) := o8 hcX11_init rfl
theorem dX11_init_543 : decode cX11_init 543 = .ok (.iconst (-1), 1) := o2 hcX11_init rfl
theorem dX11_init_544 : decode cX11_init 544 = .ok (.iastore, 1) := o79 hcX11_init rfl
theorem dX11_init_545 : decode cX11_init 545 = .ok (.putfield 211, 3) := o181 hcX11_init rfl
theorem dX11_init_548 : decode cX11_init 548 = .ok (.aload_n 0, 1) := o42 hcX11_init rfl
theorem dX11_init_549 : decode cX11_init 549 = .ok (.bipush 6, 2) := o16 hcX11_init (a := 6) rfl rfl
theorem dX11_init_551 : decode cX11_init 551 = .ok (.newarray .int, 2) := by decide +kernel
theorem dX11_init_553 : decode cX11_init 553 = .ok (.putfield 214, 3) := o181 hcX11_init rfl
theorem dX11_init_556 : decode cX11_init 556 = .ok (.aload_n 0, 1) := o42 hcX11_init rfl
theorem dX11_init_557 : decode cX11_init 557 = .ok (.sipush 360, 3) := o17 hcX11_init (a := 360) rfl rfl
theorem dX11_init_560 : decode cX11_init 560 = .ok (.newarray .long, 2) := by decide +kernel
theorem dX11_init_562 : decode cX11_init 562 = .ok (.putfield 217, 3) := o181 hcX11_init rfl
theorem dX11_init_565 : decode cX11_init 565 = .ok (.aload_n 0, 1) := o42 hcX11_init rfl
theorem dX11_init_566 : decode cX11_init 566 = .ok (.bipush 60, 2) := o16 hcX11_init (a := 60) rfl rfl
theorem dX11_init_568 : decode cX11_init 568 = .ok (.newarray .long, 2) := by decide +kernel
theorem dX11_init_570 : decode cX11_init 570 = .ok (.putfield 221, 3) := o181 hcX11_init rfl
theorem dX11_init_573 : decode cX11_init 573 = .ok (.return_, 1) := o177 hcX11_init rfl
theorem dX11_in_0 : decode cX11_in 0 = .ok (.iload_n 1, 1) := o27 hcX11_in rfl
theorem dX11_in_1 : decode cX11_in 1 = .ok (.iload_n 2, 1) := o28 hcX11_in rfl
theorem dX11_in_2 : decode cX11_in 2 = .ok (.if_icmp .lt 12, 3) := o161 hcX11_in (a := 12) rfl rfl
theorem dX11_in_5 : decode cX11_in 5 = .ok (.iload_n 1, 1) := o27 hcX11_in rfl
theorem dX11_in_6 : decode cX11_in 6 = .ok (.iload_n 3, 1) := o29 hcX11_in rfl
theorem dX11_in_7 : decode cX11_in 7 = .ok (.if_icmp .gt 7, 3) := o163 hcX11_in (a := 7) rfl rfl
theorem dX11_in_10 : decode cX11_in 10 = .ok (.iconst 1, 1) := o4 hcX11_in rfl
theorem dX11_in_11 : decode cX11_in 11 = .ok (.goto 4, 3) := o167 hcX11_in (a := 4) rfl rfl
theorem dX11_in_14 : decode cX11_in 14 = .ok (.iconst 0, 1) := o3 hcX11_in rfl
theorem dX11_in_15 : decode cX11_in 15 = .ok (.ireturn, 1) := o172 hcX11_in rfl
theorem dX11_has_0 : decode cX11_has 0 = .ok (.iload_n 1, 1) := o27 hcX11_has rfl
theorem dX11_has_1 : decode cX11_has 1 = .ok (.iload_n 2, 1) := o28 hcX11_has rfl
theorem dX11_has_2 : decode cX11_has 2 = .ok (.ishr, 1) := o122 hcX11_has rfl
theorem dX11_has_3 : decode cX11_has 3 = .ok (.iconst 1, 1) := o4 hcX11_has rfl
theorem dX11_has_4 : decode cX11_has 4 = .ok (.iand, 1) := o126 hcX11_has rfl
theorem dX11_has_5 : decode cX11_has 5 = .ok (.iconst 1, 1) := o4 hcX11_has rfl
theorem dX11_has_6 : decode cX11_has 6 = .ok (.if_icmp .ne 7, 3) := o160 hcX11_has (a := 7) rfl rfl
theorem dX11_has_9 : decode cX11_has 9 = .ok (.iconst 1, 1) := o4 hcX11_has rfl
theorem dX11_has_10 : decode cX11_has 10 = .ok (.goto 4, 3) := o167 hcX11_has (a := 4) rfl rfl
theorem dX11_has_13 : decode cX11_has 13 = .ok (.iconst 0, 1) := o3 hcX11_has rfl
theorem dX11_has_14 : decode cX11_has 14 = .ok (.ireturn, 1) := o172 hcX11_has rfl
theorem dX11_ones_0 : decode cX11_ones 0 = .ok (.iconst 0, 1) := o3 hcX11_ones rfl
theorem dX11_ones_1 : decode cX11_ones 1 = .ok (.istore_n 2, 1) := o61 hcX11_ones rfl
theorem dX11_ones_2 : decode cX11_ones 2 = .ok (.iload_n 1, 1) := o27 hcX11_ones rfl
theorem dX11_ones_3 : decode cX11_ones 3 = .ok (.istore_n 3, 1) := o62 hcX11_ones rfl
theorem dX11_ones_4 : decode cX11_ones 4 = .ok (.iload_n 3, 1) := o29 hcX11_ones rfl
theorem dX11_ones_5 : decode cX11_ones 5 = .ok (.ifCond .eq 15, 3) := o153 hcX11_ones (a := 15) rfl rfl
theorem dX11_ones_8 : decode cX11_ones 8 = .ok (.iinc 2 1, 3) := o132 hcX11_ones (b := 1) rfl rfl
theorem dX11_ones_11 : decode cX11_ones 11 = .ok (.iload_n 3, 1) := o29 hcX11_ones rfl
theorem dX11_ones_12 : decode cX11_ones 12 = .ok (.iload_n 3, 1) := o29 hcX11_ones rfl
theorem dX11_ones_13 : decode cX11_ones 13 = .ok (.iconst 1, 1) := o4 hcX11_ones rfl
theorem dX11_ones_14 : decode cX11_ones 14 = .ok (.isub, 1) := o100 hcX11_ones rfl
theorem dX11_ones_15 : decode cX11_ones 15 = .ok (.iand, 1) := o126 hcX11_ones rfl
theorem dX11_ones_16 : decode cX11_ones 16 = .ok (.istore_n 3, 1) := o62 hcX11_ones rfl
theorem dX11_ones_17 : decode cX11_ones 17 = .ok (.goto (-13), 3) := o167 hcX11_ones (a := 65523) rfl rfl
theorem dX11_ones_20 : decode cX11_ones 20 = .ok (.iload_n 2, 1) := o28 hcX11_ones rfl
theorem dX11_ones_21 : decode cX11_ones 21 = .ok (.ireturn, 1) := o172 hcX11_ones rfl
theorem dX11_isHouse_0 : decode cX11_isHouse 0 = .ok (.aload_n 0, 1) := o42 hcX11_isHouse rfl
theorem dX11_isHouse_1 : decode cX11_isHouse 1 = .ok (.iload_n 1, 1) := o27 hcX11_isHouse rfl
theorem dX11_isHouse_2 : decode cX11_isHouse 2 = .ok (.iconst 0, 1) := o3 hcX11_isHouse rfl
theorem dX11_isHouse_3 : decode cX11_isHouse 3 = .ok (.aload_n 0, 1) := o42 hcX11_isHouse rfl
theorem dX11_isHouse_4 : decode cX11_isHouse 4 = .ok (.getfield 7, 3) := o180 hcX11_isHouse rfl
theorem dX11_isHouse_7 : decode cX11_isHouse 7 = .ok (.iconst 1, 1) := o4 hcX11_isHouse rfl
theorem dX11_isHouse_8 : decode cX11_isHouse 8 = .ok (.isub, 1) := o100 hcX11_isHouse rfl
theorem dX11_isHouse_9 : decode cX11_isHouse 9 = .ok (.invokevirtual 224, 3) := o182 hcX11_isHouse rfl
theorem dX11_isHouse_12 : decode cX11_isHouse 12 = .ok (.ireturn, 1) := o172 hcX11_isHouse rfl
theorem dX11_isFolk_0 : decode cX11_isFolk 0 = .ok (.aload_n 0, 1) := o42 hcX11_isFolk rfl
theorem dX11_isFolk_1 : decode cX11_isFolk 1 = .ok (.iload_n 1, 1) := o27 hcX11_isFolk rfl
theorem dX11_isFolk_2 : decode cX11_isFolk 2 = .ok (.iconst 0, 1) := o3 hcX11_isFolk rfl
theorem dX11_isFolk_3 : decode cX11_isFolk 3 = .ok (.aload_n 0, 1) := o42 hcX11_isFolk rfl
theorem dX11_isFolk_4 : decode cX11_isFolk 4 = .ok (.getfield 13, 3) := o180 hcX11_isFolk rfl
theorem dX11_isFolk_7 : decode cX11_isFolk 7 = .ok (.iconst 1, 1) := o4 hcX11_isFolk rfl
theorem dX11_isFolk_8 : decode cX11_isFolk 8 = .ok (.isub, 1) := o100 hcX11_isFolk rfl
theorem dX11_isFolk_9 : decode cX11_isFolk 9 = .ok (.invokevirtual 224, 3) := o182 hcX11_isFolk rfl
theorem dX11_isFolk_12 : decode cX11_isFolk 12 = .ok (.ireturn, 1) := o172 hcX11_isFolk rfl
theorem dX11_becomes_0 : decode cX11_becomes 0 = .ok (.aload_n 0, 1) := o42 hcX11_becomes rfl
theorem dX11_becomes_1 : decode cX11_becomes 1 = .ok (.getfield 16, 3) := o180 hcX11_becomes rfl
theorem dX11_becomes_4 : decode cX11_becomes 4 = .ok (.iload_n 1, 1) := o27 hcX11_becomes rfl
theorem dX11_becomes_5 : decode cX11_becomes 5 = .ok (.iload_n 2, 1) := o28 hcX11_becomes rfl
theorem dX11_becomes_6 : decode cX11_becomes 6 = .ok (.iastore, 1) := o79 hcX11_becomes rfl
theorem dX11_becomes_7 : decode cX11_becomes 7 = .ok (.aload_n 0, 1) := o42 hcX11_becomes rfl
theorem dX11_becomes_8 : decode cX11_becomes 8 = .ok (.getfield 20, 3) := o180 hcX11_becomes rfl
theorem dX11_becomes_11 : decode cX11_becomes 11 = .ok (.iload_n 1, 1) := o27 hcX11_becomes rfl
theorem dX11_becomes_12 : decode cX11_becomes 12 = .ok (.iload_n 3, 1) := o29 hcX11_becomes rfl
theorem dX11_becomes_13 : decode cX11_becomes 13 = .ok (.iastore, 1) := o79 hcX11_becomes rfl
theorem dX11_becomes_14 : decode cX11_becomes 14 = .ok (.iconst 0, 1) := o3 hcX11_becomes rfl
theorem dX11_becomes_15 : decode cX11_becomes 15 = .ok (.istore 4, 2) := o54 hcX11_becomes rfl
theorem dX11_becomes_17 : decode cX11_becomes 17 = .ok (.iload 4, 2) := o21 hcX11_becomes rfl
theorem dX11_becomes_19 : decode cX11_becomes 19 = .ok (.iconst 4, 1) := o7 hcX11_becomes rfl
theorem dX11_becomes_20 : decode cX11_becomes 20 = .ok (.if_icmp .ge 21, 3) := o162 hcX11_becomes (a := 21) rfl rfl
theorem dX11_becomes_23 : decode cX11_becomes 23 = .ok (.aload_n 0, 1) := o42 hcX11_becomes rfl
theorem dX11_becomes_24 : decode cX11_becomes 24 = .ok (.getfield 29, 3) := o180 hcX11_becomes rfl
theorem dX11_becomes_27 : decode cX11_becomes 27 = .ok (.iconst 4, 1) := o7 hcX11_becomes rfl
theorem dX11_becomes_28 : decode cX11_becomes 28 = .ok (.iload_n 1, 1) := o27 hcX11_becomes rfl
theorem dX11_becomes_29 : decode cX11_becomes 29 = .ok (.imul, 1) := o104 hcX11_becomes rfl
theorem dX11_becomes_30 : decode cX11_becomes 30 = .ok (.iload 4, 2) := o21 hcX11_becomes rfl
theorem dX11_becomes_32 : decode cX11_becomes 32 = .ok (.iadd, 1) := o96 hcX11_becomes rfl
theorem dX11_becomes_33 : decode cX11_becomes 33 = .ok (.iconst 1, 1) := o4 hcX11_becomes rfl
theorem dX11_becomes_34 : decode cX11_becomes 34 = .ok (.iastore, 1) := o79 hcX11_becomes rfl
theorem dX11_becomes_35 : decode cX11_becomes 35 = .ok (.iinc 4 1, 3) := o132 hcX11_becomes (b := 1) rfl rfl
theorem dX11_becomes_38 : decode cX11_becomes 38 = .ok (.goto (-21), 3) := o167 hcX11_becomes (a := 65515) rfl rfl
theorem dX11_becomes_41 : decode cX11_becomes 41 = .ok (.return_, 1) := o177 hcX11_becomes rfl
theorem dX11_house_0 : decode cX11_house 0 = .ok (.aload_n 0, 1) := o42 hcX11_house rfl
theorem dX11_house_1 : decode cX11_house 1 = .ok (.iload_n 1, 1) := o27 hcX11_house rfl
theorem dX11_house_2 : decode cX11_house 2 = .ok (.iconst 0, 1) := o3 hcX11_house rfl
theorem dX11_house_3 : decode cX11_house 3 = .ok (.bipush 6, 2) := o16 hcX11_house (a := 6) rfl rfl
theorem dX11_house_5 : decode cX11_house 5 = .ok (.invokevirtual 224, 3) := o182 hcX11_house rfl
theorem dX11_house_8 : decode cX11_house 8 = .ok (.ifCond .ne 5, 3) := o154 hcX11_house (a := 5) rfl rfl
theorem dX11_house_11 : decode cX11_house 11 = .ok (.iconst (-1), 1) := o2 hcX11_house rfl
theorem dX11_house_12 : decode cX11_house 12 = .ok (.ireturn, 1) := o172 hcX11_house rfl
theorem dX11_house_13 : decode cX11_house 13 = .ok (.aload_n 0, 1) := o42 hcX11_house rfl
theorem dX11_house_14 : decode cX11_house 14 = .ok (.iload_n 2, 1) := o28 hcX11_house rfl
theorem dX11_house_15 : decode cX11_house 15 = .ok (.iconst 0, 1) := o3 hcX11_house rfl
theorem dX11_house_16 : decode cX11_house 16 = .ok (.bipush 9, 2) := o16 hcX11_house (a := 9) rfl rfl
theorem dX11_house_18 : decode cX11_house 18 = .ok (.invokevirtual 224, 3) := o182 hcX11_house rfl
theorem dX11_house_21 : decode cX11_house 21 = .ok (.ifCond .eq 14, 3) := o153 hcX11_house (a := 14) rfl rfl
theorem dX11_house_24 : decode cX11_house 24 = .ok (.aload_n 0, 1) := o42 hcX11_house rfl
theorem dX11_house_25 : decode cX11_house 25 = .ok (.iload_n 3, 1) := o29 hcX11_house rfl
theorem dX11_house_26 : decode cX11_house 26 = .ok (.iconst 0, 1) := o3 hcX11_house rfl
theorem dX11_house_27 : decode cX11_house 27 = .ok (.bipush 99, 2) := o16 hcX11_house (a := 99) rfl rfl
theorem dX11_house_29 : decode cX11_house 29 = .ok (.invokevirtual 224, 3) := o182 hcX11_house rfl
theorem dX11_house_32 : decode cX11_house 32 = .ok (.ifCond .ne 6, 3) := o154 hcX11_house (a := 6) rfl rfl
theorem dX11_house_35 : decode cX11_house 35 = .ok (.bipush (-2), 2) := o16 hcX11_house (a := 254) rfl rfl
theorem dX11_house_37 : decode cX11_house 37 = .ok (.ireturn, 1) := o172 hcX11_house rfl
theorem dX11_house_38 : decode cX11_house 38 = .ok (.aload_n 0, 1) := o42 hcX11_house rfl
theorem dX11_house_39 : decode cX11_house 39 = .ok (.getfield 7, 3) := o180 hcX11_house rfl
theorem dX11_house_42 : decode cX11_house 42 = .ok (.bipush 6, 2) := o16 hcX11_house (a := 6) rfl rfl
theorem dX11_house_44 : decode cX11_house 44 = .ok (.if_icmp .ne 6, 3) := o160 hcX11_house (a := 6) rfl rfl
theorem dX11_house_47 : decode cX11_house 47 = .ok (.bipush (-4), 2) := o16 hcX11_house (a := 252) rfl rfl
theorem dX11_house_49 : decode cX11_house 49 = .ok (.ireturn, 1) := o172 hcX11_house rfl
theorem dX11_house_50 : decode cX11_house 50 = .ok (.aload_n 0, 1) := o42 hcX11_house rfl
theorem dX11_house_51 : decode cX11_house 51 = .ok (.aload_n 0, 1) := o42 hcX11_house rfl
theorem dX11_house_52 : decode cX11_house 52 = .ok (.getfield 7, 3) := o180 hcX11_house rfl
theorem dX11_house_55 : decode cX11_house 55 = .ok (.iload_n 1, 1) := o27 hcX11_house rfl
theorem dX11_house_56 : decode cX11_house 56 = .ok (.iload_n 2, 1) := o28 hcX11_house rfl
theorem dX11_house_57 : decode cX11_house 57 = .ok (.invokevirtual 228, 3) := o182 hcX11_house rfl
theorem dX11_house_60 : decode cX11_house 60 = .ok (.aload_n 0, 1) := o42 hcX11_house rfl
theorem dX11_house_61 : decode cX11_house 61 = .ok (.getfield 23, 3) := o180 hcX11_house rfl
theorem dX11_house_64 : decode cX11_house 64 = .ok (.aload_n 0, 1) := o42 hcX11_house rfl
theorem dX11_house_65 : decode cX11_house 65 = .ok (.getfield 7, 3) := o180 hcX11_house rfl
theorem dX11_house_68 : decode cX11_house 68 = .ok (.iload_n 3, 1) := o29 hcX11_house rfl
theorem dX11_house_69 : decode cX11_house 69 = .ok (.iastore, 1) := o79 hcX11_house rfl
theorem dX11_house_70 : decode cX11_house 70 = .ok (.aload_n 0, 1) := o42 hcX11_house rfl
theorem dX11_house_71 : decode cX11_house 71 = .ok (.getfield 26, 3) := o180 hcX11_house rfl
theorem dX11_house_74 : decode cX11_house 74 = .ok (.aload_n 0, 1) := o42 hcX11_house rfl
theorem dX11_house_75 : decode cX11_house 75 = .ok (.getfield 7, 3) := o180 hcX11_house rfl
theorem dX11_house_78 : decode cX11_house 78 = .ok (.iconst 0, 1) := o3 hcX11_house rfl
theorem dX11_house_79 : decode cX11_house 79 = .ok (.iastore, 1) := o79 hcX11_house rfl
theorem dX11_house_80 : decode cX11_house 80 = .ok (.aload_n 0, 1) := o42 hcX11_house rfl
theorem dX11_house_81 : decode cX11_house 81 = .ok (.dup, 1) := o89 hcX11_house rfl
theorem dX11_house_82 : decode cX11_house 82 = .ok (.getfield 7, 3) := o180 hcX11_house rfl
theorem dX11_house_85 : decode cX11_house 85 = .ok (.iconst 1, 1) := o4 hcX11_house rfl
theorem dX11_house_86 : decode cX11_house 86 = .ok (.iadd, 1) := o96 hcX11_house rfl
theorem dX11_house_87 : decode cX11_house 87 = .ok (.putfield 7, 3) := o181 hcX11_house rfl
theorem dX11_house_90 : decode cX11_house 90 = .ok (.aload_n 0, 1) := o42 hcX11_house rfl
theorem dX11_house_91 : decode cX11_house 91 = .ok (.getfield 7, 3) := o180 hcX11_house rfl
theorem dX11_house_94 : decode cX11_house 94 = .ok (.iconst 1, 1) := o4 hcX11_house rfl
theorem dX11_house_95 : decode cX11_house 95 = .ok (.isub, 1) := o100 hcX11_house rfl
theorem dX11_house_96 : decode cX11_house 96 = .ok (.ireturn, 1) := o172 hcX11_house rfl
theorem dX11_folk_0 : decode cX11_folk 0 = .ok (.aload_n 0, 1) := o42 hcX11_folk rfl
theorem dX11_folk_1 : decode cX11_folk 1 = .ok (.iload_n 1, 1) := o27 hcX11_folk rfl
theorem dX11_folk_2 : decode cX11_folk 2 = .ok (.invokevirtual 232, 3) := o182 hcX11_folk rfl
theorem dX11_folk_5 : decode cX11_folk 5 = .ok (.ifCond .ne 5, 3) := o154 hcX11_folk (a := 5) rfl rfl
theorem dX11_folk_8 : decode cX11_folk 8 = .ok (.iconst (-1), 1) := o2 hcX11_folk rfl
theorem dX11_folk_9 : decode cX11_folk 9 = .ok (.ireturn, 1) := o172 hcX11_folk rfl
theorem dX11_folk_10 : decode cX11_folk 10 = .ok (.aload_n 0, 1) := o42 hcX11_folk rfl
theorem dX11_folk_11 : decode cX11_folk 11 = .ok (.iload_n 2, 1) := o28 hcX11_folk rfl
theorem dX11_folk_12 : decode cX11_folk 12 = .ok (.iconst 0, 1) := o3 hcX11_folk rfl
theorem dX11_folk_13 : decode cX11_folk 13 = .ok (.bipush 9, 2) := o16 hcX11_folk (a := 9) rfl rfl
theorem dX11_folk_15 : decode cX11_folk 15 = .ok (.invokevirtual 224, 3) := o182 hcX11_folk rfl
theorem dX11_folk_18 : decode cX11_folk 18 = .ok (.ifCond .eq 14, 3) := o153 hcX11_folk (a := 14) rfl rfl
theorem dX11_folk_21 : decode cX11_folk 21 = .ok (.aload_n 0, 1) := o42 hcX11_folk rfl
theorem dX11_folk_22 : decode cX11_folk 22 = .ok (.iload_n 3, 1) := o29 hcX11_folk rfl
theorem dX11_folk_23 : decode cX11_folk 23 = .ok (.iconst 1, 1) := o4 hcX11_folk rfl
theorem dX11_folk_24 : decode cX11_folk 24 = .ok (.bipush 9, 2) := o16 hcX11_folk (a := 9) rfl rfl
theorem dX11_folk_26 : decode cX11_folk 26 = .ok (.invokevirtual 224, 3) := o182 hcX11_folk rfl
theorem dX11_folk_29 : decode cX11_folk 29 = .ok (.ifCond .ne 6, 3) := o154 hcX11_folk (a := 6) rfl rfl
theorem dX11_folk_32 : decode cX11_folk 32 = .ok (.bipush (-2), 2) := o16 hcX11_folk (a := 254) rfl rfl
theorem dX11_folk_34 : decode cX11_folk 34 = .ok (.ireturn, 1) := o172 hcX11_folk rfl
theorem dX11_folk_35 : decode cX11_folk 35 = .ok (.aload_n 0, 1) := o42 hcX11_folk rfl
theorem dX11_folk_36 : decode cX11_folk 36 = .ok (.getfield 13, 3) := o180 hcX11_folk rfl
theorem dX11_folk_39 : decode cX11_folk 39 = .ok (.iconst 4, 1) := o7 hcX11_folk rfl
theorem dX11_folk_40 : decode cX11_folk 40 = .ok (.if_icmp .ne 6, 3) := o160 hcX11_folk (a := 6) rfl rfl
theorem dX11_folk_43 : decode cX11_folk 43 = .ok (.bipush (-4), 2) := o16 hcX11_folk (a := 252) rfl rfl
theorem dX11_folk_45 : decode cX11_folk 45 = .ok (.ireturn, 1) := o172 hcX11_folk rfl
theorem dX11_folk_46 : decode cX11_folk 46 = .ok (.aload_n 0, 1) := o42 hcX11_folk rfl
theorem dX11_folk_47 : decode cX11_folk 47 = .ok (.getfield 32, 3) := o180 hcX11_folk rfl
theorem dX11_folk_50 : decode cX11_folk 50 = .ok (.aload_n 0, 1) := o42 hcX11_folk rfl
theorem dX11_folk_51 : decode cX11_folk 51 = .ok (.getfield 13, 3) := o180 hcX11_folk rfl
theorem dX11_folk_54 : decode cX11_folk 54 = .ok (.iload_n 1, 1) := o27 hcX11_folk rfl
theorem dX11_folk_55 : decode cX11_folk 55 = .ok (.iastore, 1) := o79 hcX11_folk rfl
theorem dX11_folk_56 : decode cX11_folk 56 = .ok (.aload_n 0, 1) := o42 hcX11_folk rfl
theorem dX11_folk_57 : decode cX11_folk 57 = .ok (.getfield 35, 3) := o180 hcX11_folk rfl
theorem dX11_folk_60 : decode cX11_folk 60 = .ok (.aload_n 0, 1) := o42 hcX11_folk rfl
theorem dX11_folk_61 : decode cX11_folk 61 = .ok (.getfield 13, 3) := o180 hcX11_folk rfl
theorem dX11_folk_64 : decode cX11_folk 64 = .ok (.iload_n 2, 1) := o28 hcX11_folk rfl
theorem dX11_folk_65 : decode cX11_folk 65 = .ok (.iastore, 1) := o79 hcX11_folk rfl
theorem dX11_folk_66 : decode cX11_folk 66 = .ok (.aload_n 0, 1) := o42 hcX11_folk rfl
theorem dX11_folk_67 : decode cX11_folk 67 = .ok (.getfield 38, 3) := o180 hcX11_folk rfl
theorem dX11_folk_70 : decode cX11_folk 70 = .ok (.aload_n 0, 1) := o42 hcX11_folk rfl
theorem dX11_folk_71 : decode cX11_folk 71 = .ok (.getfield 13, 3) := o180 hcX11_folk rfl
theorem dX11_folk_74 : decode cX11_folk 74 = .ok (.iload_n 3, 1) := o29 hcX11_folk rfl
theorem dX11_folk_75 : decode cX11_folk 75 = .ok (.iastore, 1) := o79 hcX11_folk rfl
theorem dX11_folk_76 : decode cX11_folk 76 = .ok (.aload_n 0, 1) := o42 hcX11_folk rfl
theorem dX11_folk_77 : decode cX11_folk 77 = .ok (.dup, 1) := o89 hcX11_folk rfl
theorem dX11_folk_78 : decode cX11_folk 78 = .ok (.getfield 13, 3) := o180 hcX11_folk rfl
theorem dX11_folk_81 : decode cX11_folk 81 = .ok (.iconst 1, 1) := o4 hcX11_folk rfl
theorem dX11_folk_82 : decode cX11_folk 82 = .ok (.iadd, 1) := o96 hcX11_folk rfl
theorem dX11_folk_83 : decode cX11_folk 83 = .ok (.putfield 13, 3) := o181 hcX11_folk rfl
theorem dX11_folk_86 : decode cX11_folk 86 = .ok (.aload_n 0, 1) := o42 hcX11_folk rfl
theorem dX11_folk_87 : decode cX11_folk 87 = .ok (.getfield 13, 3) := o180 hcX11_folk rfl
theorem dX11_folk_90 : decode cX11_folk 90 = .ok (.iconst 1, 1) := o4 hcX11_folk rfl
theorem dX11_folk_91 : decode cX11_folk 91 = .ok (.isub, 1) := o100 hcX11_folk rfl
theorem dX11_folk_92 : decode cX11_folk 92 = .ok (.ireturn, 1) := o172 hcX11_folk rfl
theorem dX11_who_0 : decode cX11_who 0 = .ok (.aload_n 0, 1) := o42 hcX11_who rfl
theorem dX11_who_1 : decode cX11_who 1 = .ok (.iload_n 1, 1) := o27 hcX11_who rfl
theorem dX11_who_2 : decode cX11_who 2 = .ok (.invokevirtual 236, 3) := o182 hcX11_who rfl
theorem dX11_who_5 : decode cX11_who 5 = .ok (.ifCond .ne 5, 3) := o154 hcX11_who (a := 5) rfl rfl
theorem dX11_who_8 : decode cX11_who 8 = .ok (.iconst (-1), 1) := o2 hcX11_who rfl
theorem dX11_who_9 : decode cX11_who 9 = .ok (.ireturn, 1) := o172 hcX11_who rfl
theorem dX11_who_10 : decode cX11_who 10 = .ok (.iload_n 2, 1) := o28 hcX11_who rfl
theorem dX11_who_11 : decode cX11_who 11 = .ok (.ifCond .ne 12, 3) := o154 hcX11_who (a := 12) rfl rfl
theorem dX11_who_14 : decode cX11_who 14 = .ok (.aload_n 0, 1) := o42 hcX11_who rfl
theorem dX11_who_15 : decode cX11_who 15 = .ok (.getfield 32, 3) := o180 hcX11_who rfl
theorem dX11_who_18 : decode cX11_who 18 = .ok (.iload_n 1, 1) := o27 hcX11_who rfl
theorem dX11_who_19 : decode cX11_who 19 = .ok (.iaload, 1) := o46 hcX11_who rfl
theorem dX11_who_20 : decode cX11_who 20 = .ok (.goto 32, 3) := o167 hcX11_who (a := 32) rfl rfl
theorem dX11_who_23 : decode cX11_who 23 = .ok (.iload_n 2, 1) := o28 hcX11_who rfl
theorem dX11_who_24 : decode cX11_who 24 = .ok (.iconst 1, 1) := o4 hcX11_who rfl
theorem dX11_who_25 : decode cX11_who 25 = .ok (.if_icmp .ne 12, 3) := o160 hcX11_who (a := 12) rfl rfl
theorem dX11_who_28 : decode cX11_who 28 = .ok (.aload_n 0, 1) := o42 hcX11_who rfl
theorem dX11_who_29 : decode cX11_who 29 = .ok (.getfield 35, 3) := o180 hcX11_who rfl
theorem dX11_who_32 : decode cX11_who 32 = .ok (.iload_n 1, 1) := o27 hcX11_who rfl
theorem dX11_who_33 : decode cX11_who 33 = .ok (.iaload, 1) := o46 hcX11_who rfl
theorem dX11_who_34 : decode cX11_who 34 = .ok (.goto 18, 3) := o167 hcX11_who (a := 18) rfl rfl
theorem dX11_who_37 : decode cX11_who 37 = .ok (.iload_n 2, 1) := o28 hcX11_who rfl
theorem dX11_who_38 : decode cX11_who 38 = .ok (.iconst 2, 1) := o5 hcX11_who rfl
theorem dX11_who_39 : decode cX11_who 39 = .ok (.if_icmp .ne 12, 3) := o160 hcX11_who (a := 12) rfl rfl
theorem dX11_who_42 : decode cX11_who 42 = .ok (.aload_n 0, 1) := o42 hcX11_who rfl
theorem dX11_who_43 : decode cX11_who 43 = .ok (.getfield 38, 3) := o180 hcX11_who rfl
theorem dX11_who_46 : decode cX11_who 46 = .ok (.iload_n 1, 1) := o27 hcX11_who rfl
theorem dX11_who_47 : decode cX11_who 47 = .ok (.iaload, 1) := o46 hcX11_who rfl
theorem dX11_who_48 : decode cX11_who 48 = .ok (.goto 4, 3) := o167 hcX11_who (a := 4) rfl rfl
theorem dX11_who_51 : decode cX11_who 51 = .ok (.iconst (-1), 1) := o2 hcX11_who rfl
theorem dX11_who_52 : decode cX11_who 52 = .ok (.ireturn, 1) := o172 hcX11_who rfl
theorem dX11_strew_0 : decode cX11_strew 0 = .ok (.aload_n 0, 1) := o42 hcX11_strew rfl
theorem dX11_strew_1 : decode cX11_strew 1 = .ok (.iload_n 1, 1) := o27 hcX11_strew rfl
theorem dX11_strew_2 : decode cX11_strew 2 = .ok (.invokevirtual 232, 3) := o182 hcX11_strew rfl
theorem dX11_strew_5 : decode cX11_strew 5 = .ok (.ifCond .ne 5, 3) := o154 hcX11_strew (a := 5) rfl rfl
theorem dX11_strew_8 : decode cX11_strew 8 = .ok (.iconst (-1), 1) := o2 hcX11_strew rfl
theorem dX11_strew_9 : decode cX11_strew 9 = .ok (.ireturn, 1) := o172 hcX11_strew rfl
theorem dX11_strew_10 : decode cX11_strew 10 = .ok (.aload_n 0, 1) := o42 hcX11_strew rfl
theorem dX11_strew_11 : decode cX11_strew 11 = .ok (.iload_n 2, 1) := o28 hcX11_strew rfl
theorem dX11_strew_12 : decode cX11_strew 12 = .ok (.iconst 0, 1) := o3 hcX11_strew rfl
theorem dX11_strew_13 : decode cX11_strew 13 = .ok (.bipush 99, 2) := o16 hcX11_strew (a := 99) rfl rfl
theorem dX11_strew_15 : decode cX11_strew 15 = .ok (.invokevirtual 224, 3) := o182 hcX11_strew rfl
theorem dX11_strew_18 : decode cX11_strew 18 = .ok (.ifCond .ne 6, 3) := o154 hcX11_strew (a := 6) rfl rfl
theorem dX11_strew_21 : decode cX11_strew 21 = .ok (.bipush (-2), 2) := o16 hcX11_strew (a := 254) rfl rfl
theorem dX11_strew_23 : decode cX11_strew 23 = .ok (.ireturn, 1) := o172 hcX11_strew rfl
theorem dX11_strew_24 : decode cX11_strew 24 = .ok (.aload_n 0, 1) := o42 hcX11_strew rfl
theorem dX11_strew_25 : decode cX11_strew 25 = .ok (.getfield 23, 3) := o180 hcX11_strew rfl
theorem dX11_strew_28 : decode cX11_strew 28 = .ok (.iload_n 1, 1) := o27 hcX11_strew rfl
theorem dX11_strew_29 : decode cX11_strew 29 = .ok (.iaload, 1) := o46 hcX11_strew rfl
theorem dX11_strew_30 : decode cX11_strew 30 = .ok (.istore_n 3, 1) := o62 hcX11_strew rfl
theorem dX11_strew_31 : decode cX11_strew 31 = .ok (.aload_n 0, 1) := o42 hcX11_strew rfl
theorem dX11_strew_32 : decode cX11_strew 32 = .ok (.getfield 23, 3) := o180 hcX11_strew rfl
theorem dX11_strew_35 : decode cX11_strew 35 = .ok (.iload_n 1, 1) := o27 hcX11_strew rfl
theorem dX11_strew_36 : decode cX11_strew 36 = .ok (.iload_n 2, 1) := o28 hcX11_strew rfl
theorem dX11_strew_37 : decode cX11_strew 37 = .ok (.iastore, 1) := o79 hcX11_strew rfl
theorem dX11_strew_38 : decode cX11_strew 38 = .ok (.iload_n 3, 1) := o29 hcX11_strew rfl
theorem dX11_strew_39 : decode cX11_strew 39 = .ok (.ireturn, 1) := o172 hcX11_strew rfl
theorem dX11_ask_0 : decode cX11_ask 0 = .ok (.aload_n 0, 1) := o42 hcX11_ask rfl
theorem dX11_ask_1 : decode cX11_ask 1 = .ok (.iload_n 1, 1) := o27 hcX11_ask rfl
theorem dX11_ask_2 : decode cX11_ask 2 = .ok (.invokevirtual 232, 3) := o182 hcX11_ask rfl
theorem dX11_ask_5 : decode cX11_ask 5 = .ok (.ifCond .eq 11, 3) := o153 hcX11_ask (a := 11) rfl rfl
theorem dX11_ask_8 : decode cX11_ask 8 = .ok (.aload_n 0, 1) := o42 hcX11_ask rfl
theorem dX11_ask_9 : decode cX11_ask 9 = .ok (.iload_n 2, 1) := o28 hcX11_ask rfl
theorem dX11_ask_10 : decode cX11_ask 10 = .ok (.invokevirtual 236, 3) := o182 hcX11_ask rfl
theorem dX11_ask_13 : decode cX11_ask 13 = .ok (.ifCond .ne 5, 3) := o154 hcX11_ask (a := 5) rfl rfl
theorem dX11_ask_16 : decode cX11_ask 16 = .ok (.iconst (-1), 1) := o2 hcX11_ask rfl
theorem dX11_ask_17 : decode cX11_ask 17 = .ok (.ireturn, 1) := o172 hcX11_ask rfl
theorem dX11_ask_18 : decode cX11_ask 18 = .ok (.aload_n 0, 1) := o42 hcX11_ask rfl
theorem dX11_ask_19 : decode cX11_ask 19 = .ok (.getfield 26, 3) := o180 hcX11_ask rfl
theorem dX11_ask_22 : decode cX11_ask 22 = .ok (.iload_n 1, 1) := o27 hcX11_ask rfl
theorem dX11_ask_23 : decode cX11_ask 23 = .ok (.iaload, 1) := o46 hcX11_ask rfl
theorem dX11_ask_24 : decode cX11_ask 24 = .ok (.iload_n 2, 1) := o28 hcX11_ask rfl
theorem dX11_ask_25 : decode cX11_ask 25 = .ok (.ishr, 1) := o122 hcX11_ask rfl
theorem dX11_ask_26 : decode cX11_ask 26 = .ok (.iconst 1, 1) := o4 hcX11_ask rfl
theorem dX11_ask_27 : decode cX11_ask 27 = .ok (.iand, 1) := o126 hcX11_ask rfl
theorem dX11_ask_28 : decode cX11_ask 28 = .ok (.istore 4, 2) := o54 hcX11_ask rfl
theorem dX11_ask_30 : decode cX11_ask 30 = .ok (.aload_n 0, 1) := o42 hcX11_ask rfl
theorem dX11_ask_31 : decode cX11_ask 31 = .ok (.getfield 26, 3) := o180 hcX11_ask rfl
theorem dX11_ask_34 : decode cX11_ask 34 = .ok (.iload_n 1, 1) := o27 hcX11_ask rfl
theorem dX11_ask_35 : decode cX11_ask 35 = .ok (.iload_n 3, 1) := o29 hcX11_ask rfl
theorem dX11_ask_36 : decode cX11_ask 36 = .ok (.ifCond .eq 16, 3) := o153 hcX11_ask (a := 16) rfl rfl
theorem dX11_ask_39 : decode cX11_ask 39 = .ok (.aload_n 0, 1) := o42 hcX11_ask rfl
theorem dX11_ask_40 : decode cX11_ask 40 = .ok (.getfield 26, 3) := o180 hcX11_ask rfl
theorem dX11_ask_43 : decode cX11_ask 43 = .ok (.iload_n 1, 1) := o27 hcX11_ask rfl
theorem dX11_ask_44 : decode cX11_ask 44 = .ok (.iaload, 1) := o46 hcX11_ask rfl
theorem dX11_ask_45 : decode cX11_ask 45 = .ok (.iconst 1, 1) := o4 hcX11_ask rfl
theorem dX11_ask_46 : decode cX11_ask 46 = .ok (.iload_n 2, 1) := o28 hcX11_ask rfl
theorem dX11_ask_47 : decode cX11_ask 47 = .ok (.ishl, 1) := o120 hcX11_ask rfl
theorem dX11_ask_48 : decode cX11_ask 48 = .ok (.ior, 1) := o128 hcX11_ask rfl
theorem dX11_ask_49 : decode cX11_ask 49 = .ok (.goto 15, 3) := o167 hcX11_ask (a := 15) rfl rfl
theorem dX11_ask_52 : decode cX11_ask 52 = .ok (.aload_n 0, 1) := o42 hcX11_ask rfl
theorem dX11_ask_53 : decode cX11_ask 53 = .ok (.getfield 26, 3) := o180 hcX11_ask rfl
theorem dX11_ask_56 : decode cX11_ask 56 = .ok (.iload_n 1, 1) := o27 hcX11_ask rfl
theorem dX11_ask_57 : decode cX11_ask 57 = .ok (.iaload, 1) := o46 hcX11_ask rfl
theorem dX11_ask_58 : decode cX11_ask 58 = .ok (.iconst 1, 1) := o4 hcX11_ask rfl
theorem dX11_ask_59 : decode cX11_ask 59 = .ok (.iload_n 2, 1) := o28 hcX11_ask rfl
theorem dX11_ask_60 : decode cX11_ask 60 = .ok (.ishl, 1) := o120 hcX11_ask rfl
theorem dX11_ask_61 : decode cX11_ask 61 = .ok (.iconst (-1), 1) := o2 hcX11_ask rfl
theorem dX11_ask_62 : decode cX11_ask 62 = .ok (.ixor, 1) := o130 hcX11_ask rfl
theorem dX11_ask_63 : decode cX11_ask 63 = .ok (.iand, 1) := o126 hcX11_ask rfl
theorem dX11_ask_64 : decode cX11_ask 64 = .ok (.iastore, 1) := o79 hcX11_ask rfl
theorem dX11_ask_65 : decode cX11_ask 65 = .ok (.iload 4, 2) := o21 hcX11_ask rfl
theorem dX11_ask_67 : decode cX11_ask 67 = .ok (.ireturn, 1) := o172 hcX11_ask rfl
theorem dX11_sack_0 : decode cX11_sack 0 = .ok (.aload_n 0, 1) := o42 hcX11_sack rfl
theorem dX11_sack_1 : decode cX11_sack 1 = .ok (.iload_n 1, 1) := o27 hcX11_sack rfl
theorem dX11_sack_2 : decode cX11_sack 2 = .ok (.invokevirtual 236, 3) := o182 hcX11_sack rfl
theorem dX11_sack_5 : decode cX11_sack 5 = .ok (.ifCond .eq 11, 3) := o153 hcX11_sack (a := 11) rfl rfl
theorem dX11_sack_8 : decode cX11_sack 8 = .ok (.aload_n 0, 1) := o42 hcX11_sack rfl
theorem dX11_sack_9 : decode cX11_sack 9 = .ok (.iload_n 2, 1) := o28 hcX11_sack rfl
theorem dX11_sack_10 : decode cX11_sack 10 = .ok (.invokevirtual 232, 3) := o182 hcX11_sack rfl
theorem dX11_sack_13 : decode cX11_sack 13 = .ok (.ifCond .ne 5, 3) := o154 hcX11_sack (a := 5) rfl rfl
theorem dX11_sack_16 : decode cX11_sack 16 = .ok (.iconst (-1), 1) := o2 hcX11_sack rfl
theorem dX11_sack_17 : decode cX11_sack 17 = .ok (.ireturn, 1) := o172 hcX11_sack rfl
theorem dX11_sack_18 : decode cX11_sack 18 = .ok (.aload_n 0, 1) := o42 hcX11_sack rfl
theorem dX11_sack_19 : decode cX11_sack 19 = .ok (.getfield 32, 3) := o180 hcX11_sack rfl
theorem dX11_sack_22 : decode cX11_sack 22 = .ok (.iload_n 1, 1) := o27 hcX11_sack rfl
theorem dX11_sack_23 : decode cX11_sack 23 = .ok (.iaload, 1) := o46 hcX11_sack rfl
theorem dX11_sack_24 : decode cX11_sack 24 = .ok (.istore_n 3, 1) := o62 hcX11_sack rfl
theorem dX11_sack_25 : decode cX11_sack 25 = .ok (.aload_n 0, 1) := o42 hcX11_sack rfl
theorem dX11_sack_26 : decode cX11_sack 26 = .ok (.getfield 32, 3) := o180 hcX11_sack rfl
theorem dX11_sack_29 : decode cX11_sack 29 = .ok (.iload_n 1, 1) := o27 hcX11_sack rfl
theorem dX11_sack_30 : decode cX11_sack 30 = .ok (.iload_n 2, 1) := o28 hcX11_sack rfl
theorem dX11_sack_31 : decode cX11_sack 31 = .ok (.iastore, 1) := o79 hcX11_sack rfl
theorem dX11_sack_32 : decode cX11_sack 32 = .ok (.iload_n 3, 1) := o29 hcX11_sack rfl
theorem dX11_sack_33 : decode cX11_sack 33 = .ok (.ireturn, 1) := o172 hcX11_sack rfl
theorem dX11_sell_0 : decode cX11_sell 0 = .ok (.aload_n 0, 1) := o42 hcX11_sell rfl
theorem dX11_sell_1 : decode cX11_sell 1 = .ok (.iload_n 1, 1) := o27 hcX11_sell rfl
theorem dX11_sell_2 : decode cX11_sell 2 = .ok (.invokevirtual 232, 3) := o182 hcX11_sell rfl
theorem dX11_sell_5 : decode cX11_sell 5 = .ok (.ifCond .eq 14, 3) := o153 hcX11_sell (a := 14) rfl rfl
theorem dX11_sell_8 : decode cX11_sell 8 = .ok (.aload_n 0, 1) := o42 hcX11_sell rfl
theorem dX11_sell_9 : decode cX11_sell 9 = .ok (.iload_n 2, 1) := o28 hcX11_sell rfl
theorem dX11_sell_10 : decode cX11_sell 10 = .ok (.iconst 0, 1) := o3 hcX11_sell rfl
theorem dX11_sell_11 : decode cX11_sell 11 = .ok (.bipush 6, 2) := o16 hcX11_sell (a := 6) rfl rfl
theorem dX11_sell_13 : decode cX11_sell 13 = .ok (.invokevirtual 224, 3) := o182 hcX11_sell rfl
theorem dX11_sell_16 : decode cX11_sell 16 = .ok (.ifCond .ne 5, 3) := o154 hcX11_sell (a := 5) rfl rfl
theorem dX11_sell_19 : decode cX11_sell 19 = .ok (.iconst (-1), 1) := o2 hcX11_sell rfl
theorem dX11_sell_20 : decode cX11_sell 20 = .ok (.ireturn, 1) := o172 hcX11_sell rfl
theorem dX11_sell_21 : decode cX11_sell 21 = .ok (.aload_n 0, 1) := o42 hcX11_sell rfl
theorem dX11_sell_22 : decode cX11_sell 22 = .ok (.iload_n 3, 1) := o29 hcX11_sell rfl
theorem dX11_sell_23 : decode cX11_sell 23 = .ok (.iconst 0, 1) := o3 hcX11_sell rfl
theorem dX11_sell_24 : decode cX11_sell 24 = .ok (.bipush 9, 2) := o16 hcX11_sell (a := 9) rfl rfl
theorem dX11_sell_26 : decode cX11_sell 26 = .ok (.invokevirtual 224, 3) := o182 hcX11_sell rfl
theorem dX11_sell_29 : decode cX11_sell 29 = .ok (.ifCond .ne 6, 3) := o154 hcX11_sell (a := 6) rfl rfl
theorem dX11_sell_32 : decode cX11_sell 32 = .ok (.bipush (-2), 2) := o16 hcX11_sell (a := 254) rfl rfl
theorem dX11_sell_34 : decode cX11_sell 34 = .ok (.ireturn, 1) := o172 hcX11_sell rfl
theorem dX11_sell_35 : decode cX11_sell 35 = .ok (.aload_n 0, 1) := o42 hcX11_sell rfl
theorem dX11_sell_36 : decode cX11_sell 36 = .ok (.getfield 16, 3) := o180 hcX11_sell rfl
theorem dX11_sell_39 : decode cX11_sell 39 = .ok (.iload_n 1, 1) := o27 hcX11_sell rfl
theorem dX11_sell_40 : decode cX11_sell 40 = .ok (.iaload, 1) := o46 hcX11_sell rfl
theorem dX11_sell_41 : decode cX11_sell 41 = .ok (.istore 4, 2) := o54 hcX11_sell rfl
theorem dX11_sell_43 : decode cX11_sell 43 = .ok (.aload_n 0, 1) := o42 hcX11_sell rfl
theorem dX11_sell_44 : decode cX11_sell 44 = .ok (.iload_n 1, 1) := o27 hcX11_sell rfl
theorem dX11_sell_45 : decode cX11_sell 45 = .ok (.iload_n 2, 1) := o28 hcX11_sell rfl
theorem dX11_sell_46 : decode cX11_sell 46 = .ok (.iload_n 3, 1) := o29 hcX11_sell rfl
theorem dX11_sell_47 : decode cX11_sell 47 = .ok (.invokevirtual 228, 3) := o182 hcX11_sell rfl
theorem dX11_sell_50 : decode cX11_sell 50 = .ok (.iload 4, 2) := o21 hcX11_sell rfl
theorem dX11_sell_52 : decode cX11_sell 52 = .ok (.ireturn, 1) := o172 hcX11_sell rfl
theorem dX11_row_0 : decode cX11_row 0 = .ok (.aload_n 0, 1) := o42 hcX11_row rfl
theorem dX11_row_1 : decode cX11_row 1 = .ok (.iload_n 1, 1) := o27 hcX11_row rfl
theorem dX11_row_2 : decode cX11_row 2 = .ok (.invokevirtual 232, 3) := o182 hcX11_row rfl
theorem dX11_row_5 : decode cX11_row 5 = .ok (.ifCond .eq 13, 3) := o153 hcX11_row (a := 13) rfl rfl
theorem dX11_row_8 : decode cX11_row 8 = .ok (.aload_n 0, 1) := o42 hcX11_row rfl
theorem dX11_row_9 : decode cX11_row 9 = .ok (.iload_n 2, 1) := o28 hcX11_row rfl
theorem dX11_row_10 : decode cX11_row 10 = .ok (.iconst 0, 1) := o3 hcX11_row rfl
theorem dX11_row_11 : decode cX11_row 11 = .ok (.iconst 3, 1) := o6 hcX11_row rfl
theorem dX11_row_12 : decode cX11_row 12 = .ok (.invokevirtual 224, 3) := o182 hcX11_row rfl
theorem dX11_row_15 : decode cX11_row 15 = .ok (.ifCond .ne 5, 3) := o154 hcX11_row (a := 5) rfl rfl
theorem dX11_row_18 : decode cX11_row 18 = .ok (.iconst (-1), 1) := o2 hcX11_row rfl
theorem dX11_row_19 : decode cX11_row 19 = .ok (.ireturn, 1) := o172 hcX11_row rfl
theorem dX11_row_20 : decode cX11_row 20 = .ok (.aload_n 0, 1) := o42 hcX11_row rfl
theorem dX11_row_21 : decode cX11_row 21 = .ok (.iload_n 3, 1) := o29 hcX11_row rfl
theorem dX11_row_22 : decode cX11_row 22 = .ok (.iconst 0, 1) := o3 hcX11_row rfl
theorem dX11_row_23 : decode cX11_row 23 = .ok (.iconst 1, 1) := o4 hcX11_row rfl
theorem dX11_row_24 : decode cX11_row 24 = .ok (.invokevirtual 224, 3) := o182 hcX11_row rfl
theorem dX11_row_27 : decode cX11_row 27 = .ok (.ifCond .ne 6, 3) := o154 hcX11_row (a := 6) rfl rfl
theorem dX11_row_30 : decode cX11_row 30 = .ok (.bipush (-2), 2) := o16 hcX11_row (a := 254) rfl rfl
theorem dX11_row_32 : decode cX11_row 32 = .ok (.ireturn, 1) := o172 hcX11_row rfl
theorem dX11_row_33 : decode cX11_row 33 = .ok (.aload_n 0, 1) := o42 hcX11_row rfl
theorem dX11_row_34 : decode cX11_row 34 = .ok (.getfield 16, 3) := o180 hcX11_row rfl
theorem dX11_row_37 : decode cX11_row 37 = .ok (.iload_n 1, 1) := o27 hcX11_row rfl
theorem dX11_row_38 : decode cX11_row 38 = .ok (.iaload, 1) := o46 hcX11_row rfl
theorem dX11_row_39 : decode cX11_row 39 = .ok (.bipush 6, 2) := o16 hcX11_row (a := 6) rfl rfl
theorem dX11_row_41 : decode cX11_row 41 = .ok (.if_icmp .eq 6, 3) := o159 hcX11_row (a := 6) rfl rfl
theorem dX11_row_44 : decode cX11_row 44 = .ok (.bipush (-3), 2) := o16 hcX11_row (a := 253) rfl rfl
theorem dX11_row_46 : decode cX11_row 46 = .ok (.ireturn, 1) := o172 hcX11_row rfl
theorem dX11_row_47 : decode cX11_row 47 = .ok (.aload_n 0, 1) := o42 hcX11_row rfl
theorem dX11_row_48 : decode cX11_row 48 = .ok (.getfield 29, 3) := o180 hcX11_row rfl
theorem dX11_row_51 : decode cX11_row 51 = .ok (.iconst 4, 1) := o7 hcX11_row rfl
theorem dX11_row_52 : decode cX11_row 52 = .ok (.iload_n 1, 1) := o27 hcX11_row rfl
theorem dX11_row_53 : decode cX11_row 53 = .ok (.imul, 1) := o104 hcX11_row rfl
theorem dX11_row_54 : decode cX11_row 54 = .ok (.iload_n 2, 1) := o28 hcX11_row rfl
theorem dX11_row_55 : decode cX11_row 55 = .ok (.iadd, 1) := o96 hcX11_row rfl
theorem dX11_row_56 : decode cX11_row 56 = .ok (.iaload, 1) := o46 hcX11_row rfl
theorem dX11_row_57 : decode cX11_row 57 = .ok (.istore 4, 2) := o54 hcX11_row rfl
theorem dX11_row_59 : decode cX11_row 59 = .ok (.aload_n 0, 1) := o42 hcX11_row rfl
theorem dX11_row_60 : decode cX11_row 60 = .ok (.getfield 29, 3) := o180 hcX11_row rfl
theorem dX11_row_63 : decode cX11_row 63 = .ok (.iconst 4, 1) := o7 hcX11_row rfl
theorem dX11_row_64 : decode cX11_row 64 = .ok (.iload_n 1, 1) := o27 hcX11_row rfl
theorem dX11_row_65 : decode cX11_row 65 = .ok (.imul, 1) := o104 hcX11_row rfl
theorem dX11_row_66 : decode cX11_row 66 = .ok (.iload_n 2, 1) := o28 hcX11_row rfl
theorem dX11_row_67 : decode cX11_row 67 = .ok (.iadd, 1) := o96 hcX11_row rfl
theorem dX11_row_68 : decode cX11_row 68 = .ok (.iload_n 3, 1) := o29 hcX11_row rfl
theorem dX11_row_69 : decode cX11_row 69 = .ok (.iastore, 1) := o79 hcX11_row rfl
theorem dX11_row_70 : decode cX11_row 70 = .ok (.iload 4, 2) := o21 hcX11_row rfl
theorem dX11_row_72 : decode cX11_row 72 = .ok (.ireturn, 1) := o172 hcX11_row rfl
theorem dX11_feed_0 : decode cX11_feed 0 = .ok (.aload_n 0, 1) := o42 hcX11_feed rfl
theorem dX11_feed_1 : decode cX11_feed 1 = .ok (.iload_n 1, 1) := o27 hcX11_feed rfl
theorem dX11_feed_2 : decode cX11_feed 2 = .ok (.iconst 0, 1) := o3 hcX11_feed rfl
theorem dX11_feed_3 : decode cX11_feed 3 = .ok (.bipush 127, 2) := o16 hcX11_feed (a := 127) rfl rfl
theorem dX11_feed_5 : decode cX11_feed 5 = .ok (.invokevirtual 224, 3) := o182 hcX11_feed rfl
theorem dX11_feed_8 : decode cX11_feed 8 = .ok (.ifCond .ne 6, 3) := o154 hcX11_feed (a := 6) rfl rfl
theorem dX11_feed_11 : decode cX11_feed 11 = .ok (.bipush (-2), 2) := o16 hcX11_feed (a := 254) rfl rfl
theorem dX11_feed_13 : decode cX11_feed 13 = .ok (.ireturn, 1) := o172 hcX11_feed rfl
theorem dX11_feed_14 : decode cX11_feed 14 = .ok (.aload_n 0, 1) := o42 hcX11_feed rfl
theorem dX11_feed_15 : decode cX11_feed 15 = .ok (.getfield 47, 3) := o180 hcX11_feed rfl
theorem dX11_feed_18 : decode cX11_feed 18 = .ok (.bipush 100, 2) := o16 hcX11_feed (a := 100) rfl rfl
theorem dX11_feed_20 : decode cX11_feed 20 = .ok (.if_icmp .ne 6, 3) := o160 hcX11_feed (a := 6) rfl rfl
theorem dX11_feed_23 : decode cX11_feed 23 = .ok (.bipush (-4), 2) := o16 hcX11_feed (a := 252) rfl rfl
theorem dX11_feed_25 : decode cX11_feed 25 = .ok (.ireturn, 1) := o172 hcX11_feed rfl
theorem dX11_feed_26 : decode cX11_feed 26 = .ok (.aload_n 0, 1) := o42 hcX11_feed rfl
theorem dX11_feed_27 : decode cX11_feed 27 = .ok (.getfield 56, 3) := o180 hcX11_feed rfl
theorem dX11_feed_30 : decode cX11_feed 30 = .ok (.aload_n 0, 1) := o42 hcX11_feed rfl
theorem dX11_feed_31 : decode cX11_feed 31 = .ok (.getfield 47, 3) := o180 hcX11_feed rfl
theorem dX11_feed_34 : decode cX11_feed 34 = .ok (.iload_n 1, 1) := o27 hcX11_feed rfl
theorem dX11_feed_35 : decode cX11_feed 35 = .ok (.iastore, 1) := o79 hcX11_feed rfl
theorem dX11_feed_36 : decode cX11_feed 36 = .ok (.aload_n 0, 1) := o42 hcX11_feed rfl
theorem dX11_feed_37 : decode cX11_feed 37 = .ok (.dup, 1) := o89 hcX11_feed rfl
theorem dX11_feed_38 : decode cX11_feed 38 = .ok (.getfield 47, 3) := o180 hcX11_feed rfl
theorem dX11_feed_41 : decode cX11_feed 41 = .ok (.iconst 1, 1) := o4 hcX11_feed rfl
theorem dX11_feed_42 : decode cX11_feed 42 = .ok (.iadd, 1) := o96 hcX11_feed rfl
theorem dX11_feed_43 : decode cX11_feed 43 = .ok (.putfield 47, 3) := o181 hcX11_feed rfl
theorem dX11_feed_46 : decode cX11_feed 46 = .ok (.aload_n 0, 1) := o42 hcX11_feed rfl
theorem dX11_feed_47 : decode cX11_feed 47 = .ok (.getfield 47, 3) := o180 hcX11_feed rfl
theorem dX11_feed_50 : decode cX11_feed 50 = .ok (.ireturn, 1) := o172 hcX11_feed rfl
theorem dX11_peek_0 : decode cX11_peek 0 = .ok (.aload_n 0, 1) := o42 hcX11_peek rfl
theorem dX11_peek_1 : decode cX11_peek 1 = .ok (.getfield 50, 3) := o180 hcX11_peek rfl
theorem dX11_peek_4 : decode cX11_peek 4 = .ok (.aload_n 0, 1) := o42 hcX11_peek rfl
theorem dX11_peek_5 : decode cX11_peek 5 = .ok (.getfield 47, 3) := o180 hcX11_peek rfl
theorem dX11_peek_8 : decode cX11_peek 8 = .ok (.if_icmp .ge 15, 3) := o162 hcX11_peek (a := 15) rfl rfl
theorem dX11_peek_11 : decode cX11_peek 11 = .ok (.aload_n 0, 1) := o42 hcX11_peek rfl
theorem dX11_peek_12 : decode cX11_peek 12 = .ok (.getfield 56, 3) := o180 hcX11_peek rfl
theorem dX11_peek_15 : decode cX11_peek 15 = .ok (.aload_n 0, 1) := o42 hcX11_peek rfl
theorem dX11_peek_16 : decode cX11_peek 16 = .ok (.getfield 50, 3) := o180 hcX11_peek rfl
theorem dX11_peek_19 : decode cX11_peek 19 = .ok (.iaload, 1) := o46 hcX11_peek rfl
theorem dX11_peek_20 : decode cX11_peek 20 = .ok (.goto 4, 3) := o167 hcX11_peek (a := 4) rfl rfl
theorem dX11_peek_23 : decode cX11_peek 23 = .ok (.iconst (-1), 1) := o2 hcX11_peek rfl
theorem dX11_peek_24 : decode cX11_peek 24 = .ok (.ireturn, 1) := o172 hcX11_peek rfl
theorem dX11_takes_0 : decode cX11_takes 0 = .ok (.aload_n 0, 1) := o42 hcX11_takes rfl
theorem dX11_takes_1 : decode cX11_takes 1 = .ok (.invokevirtual 239, 3) := o182 hcX11_takes rfl
theorem dX11_takes_4 : decode cX11_takes 4 = .ok (.iload_n 1, 1) := o27 hcX11_takes rfl
theorem dX11_takes_5 : decode cX11_takes 5 = .ok (.if_icmp .eq 5, 3) := o159 hcX11_takes (a := 5) rfl rfl
theorem dX11_takes_8 : decode cX11_takes 8 = .ok (.iconst 0, 1) := o3 hcX11_takes rfl
theorem dX11_takes_9 : decode cX11_takes 9 = .ok (.ireturn, 1) := o172 hcX11_takes rfl
theorem dX11_takes_10 : decode cX11_takes 10 = .ok (.aload_n 0, 1) := o42 hcX11_takes rfl
theorem dX11_takes_11 : decode cX11_takes 11 = .ok (.dup, 1) := o89 hcX11_takes rfl
theorem dX11_takes_12 : decode cX11_takes 12 = .ok (.getfield 50, 3) := o180 hcX11_takes rfl
theorem dX11_takes_15 : decode cX11_takes 15 = .ok (.iconst 1, 1) := o4 hcX11_takes rfl
theorem dX11_takes_16 : decode cX11_takes 16 = .ok (.iadd, 1) := o96 hcX11_takes rfl
theorem dX11_takes_17 : decode cX11_takes 17 = .ok (.putfield 50, 3) := o181 hcX11_takes rfl
theorem dX11_takes_20 : decode cX11_takes 20 = .ok (.iconst 1, 1) := o4 hcX11_takes rfl
theorem dX11_takes_21 : decode cX11_takes 21 = .ok (.ireturn, 1) := o172 hcX11_takes rfl
theorem dX11_takesWord_0 : decode cX11_takesWord 0 = .ok (.iconst 0, 1) := o3 hcX11_takesWord rfl
theorem dX11_takesWord_1 : decode cX11_takesWord 1 = .ok (.istore_n 3, 1) := o62 hcX11_takesWord rfl
theorem dX11_takesWord_2 : decode cX11_takesWord 2 = .ok (.iload_n 3, 1) := o29 hcX11_takesWord rfl
theorem dX11_takesWord_3 : decode cX11_takesWord 3 = .ok (.iload_n 2, 1) := o28 hcX11_takesWord rfl
theorem dX11_takesWord_4 : decode cX11_takesWord 4 = .ok (.if_icmp .ge 26, 3) := o162 hcX11_takesWord (a := 26) rfl rfl
theorem dX11_takesWord_7 : decode cX11_takesWord 7 = .ok (.aload_n 0, 1) := o42 hcX11_takesWord rfl
theorem dX11_takesWord_8 : decode cX11_takesWord 8 = .ok (.aload_n 0, 1) := o42 hcX11_takesWord rfl
theorem dX11_takesWord_9 : decode cX11_takesWord 9 = .ok (.getfield 89, 3) := o180 hcX11_takesWord rfl
theorem dX11_takesWord_12 : decode cX11_takesWord 12 = .ok (.iload_n 1, 1) := o27 hcX11_takesWord rfl
theorem dX11_takesWord_13 : decode cX11_takesWord 13 = .ok (.iload_n 3, 1) := o29 hcX11_takesWord rfl
theorem dX11_takesWord_14 : decode cX11_takesWord 14 = .ok (.iadd, 1) := o96 hcX11_takesWord rfl
theorem dX11_takesWord_15 : decode cX11_takesWord 15 = .ok (.iaload, 1) := o46 hcX11_takesWord rfl
theorem dX11_takesWord_16 : decode cX11_takesWord 16 = .ok (.invokevirtual 243, 3) := o182 hcX11_takesWord rfl
theorem dX11_takesWord_19 : decode cX11_takesWord 19 = .ok (.ifCond .ne 5, 3) := o154 hcX11_takesWord (a := 5) rfl rfl
theorem dX11_takesWord_22 : decode cX11_takesWord 22 = .ok (.iconst 0, 1) := o3 hcX11_takesWord rfl
theorem dX11_takesWord_23 : decode cX11_takesWord 23 = .ok (.ireturn, 1) := o172 hcX11_takesWord rfl
theorem dX11_takesWord_24 : decode cX11_takesWord 24 = .ok (.iinc 3 1, 3) := o132 hcX11_takesWord (b := 1) rfl rfl
theorem dX11_takesWord_27 : decode cX11_takesWord 27 = .ok (.goto (-25), 3) := o167 hcX11_takesWord (a := 65511) rfl rfl
theorem dX11_takesWord_30 : decode cX11_takesWord 30 = .ok (.aload_n 0, 1) := o42 hcX11_takesWord rfl
theorem dX11_takesWord_31 : decode cX11_takesWord 31 = .ok (.bipush 32, 2) := o16 hcX11_takesWord (a := 32) rfl rfl
theorem dX11_takesWord_33 : decode cX11_takesWord 33 = .ok (.invokevirtual 243, 3) := o182 hcX11_takesWord rfl
theorem dX11_takesWord_36 : decode cX11_takesWord 36 = .ok (.ireturn, 1) := o172 hcX11_takesWord rfl
theorem dX11_isDigit_0 : decode cX11_isDigit 0 = .ok (.aload_n 0, 1) := o42 hcX11_isDigit rfl
theorem dX11_isDigit_1 : decode cX11_isDigit 1 = .ok (.aload_n 0, 1) := o42 hcX11_isDigit rfl
theorem dX11_isDigit_2 : decode cX11_isDigit 2 = .ok (.invokevirtual 239, 3) := o182 hcX11_isDigit rfl
theorem dX11_isDigit_5 : decode cX11_isDigit 5 = .ok (.bipush 48, 2) := o16 hcX11_isDigit (a := 48) rfl rfl
theorem dX11_isDigit_7 : decode cX11_isDigit 7 = .ok (.bipush 57, 2) := o16 hcX11_isDigit (a := 57) rfl rfl
theorem dX11_isDigit_9 : decode cX11_isDigit 9 = .ok (.invokevirtual 224, 3) := o182 hcX11_isDigit rfl
theorem dX11_isDigit_12 : decode cX11_isDigit 12 = .ok (.ireturn, 1) := o172 hcX11_isDigit rfl
theorem dX11_takesNumber_0 : decode cX11_takesNumber 0 = .ok (.aload_n 0, 1) := o42 hcX11_takesNumber rfl
theorem dX11_takesNumber_1 : decode cX11_takesNumber 1 = .ok (.invokevirtual 246, 3) := o182 hcX11_takesNumber rfl
theorem dX11_takesNumber_4 : decode cX11_takesNumber 4 = .ok (.ifCond .ne 5, 3) := o154 hcX11_takesNumber (a := 5) rfl rfl
theorem dX11_takesNumber_7 : decode cX11_takesNumber 7 = .ok (.iconst 0, 1) := o3 hcX11_takesNumber rfl
theorem dX11_takesNumber_8 : decode cX11_takesNumber 8 = .ok (.ireturn, 1) := o172 hcX11_takesNumber rfl
theorem dX11_takesNumber_9 : decode cX11_takesNumber 9 = .ok (.aload_n 0, 1) := o42 hcX11_takesNumber rfl
theorem dX11_takesNumber_10 : decode cX11_takesNumber 10 = .ok (.iconst 0, 1) := o3 hcX11_takesNumber rfl
theorem dX11_takesNumber_11 : decode cX11_takesNumber 11 = .ok (.putfield 53, 3) := o181 hcX11_takesNumber rfl
theorem dX11_takesNumber_14 : decode cX11_takesNumber 14 = .ok (.iconst 0, 1) := o3 hcX11_takesNumber rfl
theorem dX11_takesNumber_15 : decode cX11_takesNumber 15 = .ok (.istore_n 1, 1) := o60 hcX11_takesNumber rfl
theorem dX11_takesNumber_16 : decode cX11_takesNumber 16 = .ok (.iload_n 1, 1) := o27 hcX11_takesNumber rfl
theorem dX11_takesNumber_17 : decode cX11_takesNumber 17 = .ok (.iconst 2, 1) := o5 hcX11_takesNumber rfl
theorem dX11_takesNumber_18 : decode cX11_takesNumber 18 = .ok (.if_icmp .ge 45, 3) := o162 hcX11_takesNumber (a := 45) rfl rfl
theorem dX11_takesNumber_21 : decode cX11_takesNumber 21 = .ok (.aload_n 0, 1) := o42 hcX11_takesNumber rfl
theorem dX11_takesNumber_22 : decode cX11_takesNumber 22 = .ok (.invokevirtual 246, 3) := o182 hcX11_takesNumber rfl
theorem dX11_takesNumber_25 : decode cX11_takesNumber 25 = .ok (.ifCond .eq 38, 3) := o153 hcX11_takesNumber (a := 38) rfl rfl
theorem dX11_takesNumber_28 : decode cX11_takesNumber 28 = .ok (.aload_n 0, 1) := o42 hcX11_takesNumber rfl
theorem dX11_takesNumber_29 : decode cX11_takesNumber 29 = .ok (.bipush 10, 2) := o16 hcX11_takesNumber (a := 10) rfl rfl
theorem dX11_takesNumber_31 : decode cX11_takesNumber 31 = .ok (.aload_n 0, 1) := o42 hcX11_takesNumber rfl
theorem dX11_takesNumber_32 : decode cX11_takesNumber 32 = .ok (.getfield 53, 3) := o180 hcX11_takesNumber rfl
theorem dX11_takesNumber_35 : decode cX11_takesNumber 35 = .ok (.imul, 1) := o104 hcX11_takesNumber rfl
theorem dX11_takesNumber_36 : decode cX11_takesNumber 36 = .ok (.aload_n 0, 1) := o42 hcX11_takesNumber rfl
theorem dX11_takesNumber_37 : decode cX11_takesNumber 37 = .ok (.invokevirtual 239, 3) := o182 hcX11_takesNumber rfl
theorem dX11_takesNumber_40 : decode cX11_takesNumber 40 = .ok (.iadd, 1) := o96 hcX11_takesNumber rfl
theorem dX11_takesNumber_41 : decode cX11_takesNumber 41 = .ok (.bipush 48, 2) := o16 hcX11_takesNumber (a := 48) rfl rfl
theorem dX11_takesNumber_43 : decode cX11_takesNumber 43 = .ok (.isub, 1) := o100 hcX11_takesNumber rfl
theorem dX11_takesNumber_44 : decode cX11_takesNumber 44 = .ok (.putfield 53, 3) := o181 hcX11_takesNumber rfl
theorem dX11_takesNumber_47 : decode cX11_takesNumber 47 = .ok (.aload_n 0, 1) := o42 hcX11_takesNumber rfl
theorem dX11_takesNumber_48 : decode cX11_takesNumber 48 = .ok (.dup, 1) := o89 hcX11_takesNumber rfl
theorem dX11_takesNumber_49 : decode cX11_takesNumber 49 = .ok (.getfield 50, 3) := o180 hcX11_takesNumber rfl
theorem dX11_takesNumber_52 : decode cX11_takesNumber 52 = .ok (.iconst 1, 1) := o4 hcX11_takesNumber rfl
theorem dX11_takesNumber_53 : decode cX11_takesNumber 53 = .ok (.iadd, 1) := o96 hcX11_takesNumber rfl
theorem dX11_takesNumber_54 : decode cX11_takesNumber 54 = .ok (.putfield 50, 3) := o181 hcX11_takesNumber rfl
theorem dX11_takesNumber_57 : decode cX11_takesNumber 57 = .ok (.iinc 1 1, 3) := o132 hcX11_takesNumber (b := 1) rfl rfl
theorem dX11_takesNumber_60 : decode cX11_takesNumber 60 = .ok (.goto (-44), 3) := o167 hcX11_takesNumber (a := 65492) rfl rfl
theorem dX11_takesNumber_63 : decode cX11_takesNumber 63 = .ok (.iconst 1, 1) := o4 hcX11_takesNumber rfl
theorem dX11_takesNumber_64 : decode cX11_takesNumber 64 = .ok (.ireturn, 1) := o172 hcX11_takesNumber rfl
theorem dX11_emits_0 : decode cX11_emits 0 = .ok (.aload_n 0, 1) := o42 hcX11_emits rfl
theorem dX11_emits_1 : decode cX11_emits 1 = .ok (.getfield 74, 3) := o180 hcX11_emits rfl
theorem dX11_emits_4 : decode cX11_emits 4 = .ok (.aload_n 0, 1) := o42 hcX11_emits rfl
theorem dX11_emits_5 : decode cX11_emits 5 = .ok (.getfield 80, 3) := o180 hcX11_emits rfl
theorem dX11_emits_8 : decode cX11_emits 8 = .ok (.iload_n 1, 1) := o27 hcX11_emits rfl
theorem dX11_emits_9 : decode cX11_emits 9 = .ok (.iastore, 1) := o79 hcX11_emits rfl
theorem dX11_emits_10 : decode cX11_emits 10 = .ok (.aload_n 0, 1) := o42 hcX11_emits rfl
theorem dX11_emits_11 : decode cX11_emits 11 = .ok (.dup, 1) := o89 hcX11_emits rfl
theorem dX11_emits_12 : decode cX11_emits 12 = .ok (.getfield 80, 3) := o180 hcX11_emits rfl
theorem dX11_emits_15 : decode cX11_emits 15 = .ok (.iconst 1, 1) := o4 hcX11_emits rfl
theorem dX11_emits_16 : decode cX11_emits 16 = .ok (.iadd, 1) := o96 hcX11_emits rfl
theorem dX11_emits_17 : decode cX11_emits 17 = .ok (.putfield 80, 3) := o181 hcX11_emits rfl
theorem dX11_emits_20 : decode cX11_emits 20 = .ok (.return_, 1) := o177 hcX11_emits rfl
theorem dX11_whole_0 : decode cX11_whole 0 = .ok (.aload_n 0, 1) := o42 hcX11_whole rfl
theorem dX11_whole_1 : decode cX11_whole 1 = .ok (.getfield 83, 3) := o180 hcX11_whole rfl
theorem dX11_whole_4 : decode cX11_whole 4 = .ok (.ifCond .le 48, 3) := o158 hcX11_whole (a := 48) rfl rfl
theorem dX11_whole_7 : decode cX11_whole 7 = .ok (.aload_n 0, 1) := o42 hcX11_whole rfl
theorem dX11_whole_8 : decode cX11_whole 8 = .ok (.getfield 77, 3) := o180 hcX11_whole rfl
theorem dX11_whole_11 : decode cX11_whole 11 = .ok (.aload_n 0, 1) := o42 hcX11_whole rfl
theorem dX11_whole_12 : decode cX11_whole 12 = .ok (.getfield 83, 3) := o180 hcX11_whole rfl
theorem dX11_whole_15 : decode cX11_whole 15 = .ok (.iconst 1, 1) := o4 hcX11_whole rfl
theorem dX11_whole_16 : decode cX11_whole 16 = .ok (.isub, 1) := o100 hcX11_whole rfl
theorem dX11_whole_17 : decode cX11_whole 17 = .ok (.iaload, 1) := o46 hcX11_whole rfl
theorem dX11_whole_18 : decode cX11_whole 18 = .ok (.bipush 33, 2) := o16 hcX11_whole (a := 33) rfl rfl
theorem dX11_whole_20 : decode cX11_whole 20 = .ok (.if_icmp .ne 32, 3) := o160 hcX11_whole (a := 32) rfl rfl
theorem dX11_whole_23 : decode cX11_whole 23 = .ok (.aload_n 0, 1) := o42 hcX11_whole rfl
theorem dX11_whole_24 : decode cX11_whole 24 = .ok (.bipush (-33), 2) := o16 hcX11_whole (a := 223) rfl rfl
theorem dX11_whole_26 : decode cX11_whole 26 = .ok (.invokevirtual 250, 3) := o182 hcX11_whole rfl
theorem dX11_whole_29 : decode cX11_whole 29 = .ok (.aload_n 0, 1) := o42 hcX11_whole rfl
theorem dX11_whole_30 : decode cX11_whole 30 = .ok (.dup, 1) := o89 hcX11_whole rfl
theorem dX11_whole_31 : decode cX11_whole 31 = .ok (.getfield 83, 3) := o180 hcX11_whole rfl
theorem dX11_whole_34 : decode cX11_whole 34 = .ok (.iconst 1, 1) := o4 hcX11_whole rfl
theorem dX11_whole_35 : decode cX11_whole 35 = .ok (.isub, 1) := o100 hcX11_whole rfl
theorem dX11_whole_36 : decode cX11_whole 36 = .ok (.putfield 83, 3) := o181 hcX11_whole rfl
theorem dX11_whole_39 : decode cX11_whole 39 = .ok (.aload_n 0, 1) := o42 hcX11_whole rfl
theorem dX11_whole_40 : decode cX11_whole 40 = .ok (.dup, 1) := o89 hcX11_whole rfl
theorem dX11_whole_41 : decode cX11_whole 41 = .ok (.getfield 86, 3) := o180 hcX11_whole rfl
theorem dX11_whole_44 : decode cX11_whole 44 = .ok (.iconst 1, 1) := o4 hcX11_whole rfl
theorem dX11_whole_45 : decode cX11_whole 45 = .ok (.isub, 1) := o100 hcX11_whole rfl
theorem dX11_whole_46 : decode cX11_whole 46 = .ok (.putfield 86, 3) := o181 hcX11_whole rfl
theorem dX11_whole_49 : decode cX11_whole 49 = .ok (.goto (-49), 3) := o167 hcX11_whole (a := 65487) rfl rfl
theorem dX11_whole_52 : decode cX11_whole 52 = .ok (.return_, 1) := o177 hcX11_whole rfl
theorem dX11_settle_0 : decode cX11_settle 0 = .ok (.aload_n 0, 1) := o42 hcX11_settle rfl
theorem dX11_settle_1 : decode cX11_settle 1 = .ok (.getfield 83, 3) := o180 hcX11_settle rfl
theorem dX11_settle_4 : decode cX11_settle 4 = .ok (.ifCond .le 68, 3) := o158 hcX11_settle (a := 68) rfl rfl
theorem dX11_settle_7 : decode cX11_settle 7 = .ok (.aload_n 0, 1) := o42 hcX11_settle rfl
theorem dX11_settle_8 : decode cX11_settle 8 = .ok (.getfield 77, 3) := o180 hcX11_settle rfl
theorem dX11_settle_11 : decode cX11_settle 11 = .ok (.aload_n 0, 1) := o42 hcX11_settle rfl
theorem dX11_settle_12 : decode cX11_settle 12 = .ok (.getfield 83, 3) := o180 hcX11_settle rfl
theorem dX11_settle_15 : decode cX11_settle 15 = .ok (.iconst 1, 1) := o4 hcX11_settle rfl
theorem dX11_settle_16 : decode cX11_settle 16 = .ok (.isub, 1) := o100 hcX11_settle rfl
theorem dX11_settle_17 : decode cX11_settle 17 = .ok (.iaload, 1) := o46 hcX11_settle rfl
theorem dX11_settle_18 : decode cX11_settle 18 = .ok (.bipush 38, 2) := o16 hcX11_settle (a := 38) rfl rfl
theorem dX11_settle_20 : decode cX11_settle 20 = .ok (.if_icmp .eq 25, 3) := o159 hcX11_settle (a := 25) rfl rfl
theorem dX11_settle_23 : decode cX11_settle 23 = .ok (.aload_n 0, 1) := o42 hcX11_settle rfl
theorem dX11_settle_24 : decode cX11_settle 24 = .ok (.getfield 77, 3) := o180 hcX11_settle rfl
theorem dX11_settle_27 : decode cX11_settle 27 = .ok (.aload_n 0, 1) := o42 hcX11_settle rfl
theorem dX11_settle_28 : decode cX11_settle 28 = .ok (.getfield 83, 3) := o180 hcX11_settle rfl
theorem dX11_settle_31 : decode cX11_settle 31 = .ok (.iconst 1, 1) := o4 hcX11_settle rfl
theorem dX11_settle_32 : decode cX11_settle 32 = .ok (.isub, 1) := o100 hcX11_settle rfl
theorem dX11_settle_33 : decode cX11_settle 33 = .ok (.iaload, 1) := o46 hcX11_settle rfl
theorem dX11_settle_34 : decode cX11_settle 34 = .ok (.bipush 124, 2) := o16 hcX11_settle (a := 124) rfl rfl
theorem dX11_settle_36 : decode cX11_settle 36 = .ok (.if_icmp .ne 36, 3) := o160 hcX11_settle (a := 36) rfl rfl
theorem dX11_settle_39 : decode cX11_settle 39 = .ok (.iload_n 1, 1) := o27 hcX11_settle rfl
theorem dX11_settle_40 : decode cX11_settle 40 = .ok (.bipush 38, 2) := o16 hcX11_settle (a := 38) rfl rfl
theorem dX11_settle_42 : decode cX11_settle 42 = .ok (.if_icmp .eq 30, 3) := o159 hcX11_settle (a := 30) rfl rfl
theorem dX11_settle_45 : decode cX11_settle 45 = .ok (.aload_n 0, 1) := o42 hcX11_settle rfl
theorem dX11_settle_46 : decode cX11_settle 46 = .ok (.dup, 1) := o89 hcX11_settle rfl
theorem dX11_settle_47 : decode cX11_settle 47 = .ok (.getfield 83, 3) := o180 hcX11_settle rfl
theorem dX11_settle_50 : decode cX11_settle 50 = .ok (.iconst 1, 1) := o4 hcX11_settle rfl
theorem dX11_settle_51 : decode cX11_settle 51 = .ok (.isub, 1) := o100 hcX11_settle rfl
theorem dX11_settle_52 : decode cX11_settle 52 = .ok (.putfield 83, 3) := o181 hcX11_settle rfl
theorem dX11_settle_55 : decode cX11_settle 55 = .ok (.aload_n 0, 1) := o42 hcX11_settle rfl
theorem dX11_settle_56 : decode cX11_settle 56 = .ok (.aload_n 0, 1) := o42 hcX11_settle rfl
theorem dX11_settle_57 : decode cX11_settle 57 = .ok (.getfield 77, 3) := o180 hcX11_settle rfl
theorem dX11_settle_60 : decode cX11_settle 60 = .ok (.aload_n 0, 1) := o42 hcX11_settle rfl
theorem dX11_settle_61 : decode cX11_settle 61 = .ok (.getfield 83, 3) := o180 hcX11_settle rfl
theorem dX11_settle_64 : decode cX11_settle 64 = .ok (.iaload, 1) := o46 hcX11_settle rfl
theorem dX11_settle_65 : decode cX11_settle 65 = .ok (.ineg, 1) := o116 hcX11_settle rfl
theorem dX11_settle_66 : decode cX11_settle 66 = .ok (.invokevirtual 250, 3) := o182 hcX11_settle rfl
theorem dX11_settle_69 : decode cX11_settle 69 = .ok (.goto (-69), 3) := o167 hcX11_settle (a := 65467) rfl rfl
theorem dX11_settle_72 : decode cX11_settle 72 = .ok (.return_, 1) := o177 hcX11_settle rfl
theorem dX11_place_0 : decode cX11_place 0 = .ok (.iload_n 1, 1) := o27 hcX11_place rfl
theorem dX11_place_1 : decode cX11_place 1 = .ok (.tableswitch 107 99 118 #[105, 107, 107, 95, 103, 97, 107, 107, 99, 107, 107, 107, 107, 107, 107, 107, 107, 107, 107, 101], 95) := by decide +kernel
theorem dX11_place_96 : decode cX11_place 96 = .ok (.iconst 0, 1) := o3 hcX11_place rfl
theorem dX11_place_97 : decode cX11_place 97 = .ok (.ireturn, 1) := o172 hcX11_place rfl
theorem dX11_place_98 : decode cX11_place 98 = .ok (.iconst 1, 1) := o4 hcX11_place rfl
theorem dX11_place_99 : decode cX11_place 99 = .ok (.ireturn, 1) := o172 hcX11_place rfl
theorem dX11_place_100 : decode cX11_place 100 = .ok (.iconst 2, 1) := o5 hcX11_place rfl
theorem dX11_place_101 : decode cX11_place 101 = .ok (.ireturn, 1) := o172 hcX11_place rfl
theorem dX11_place_102 : decode cX11_place 102 = .ok (.iconst 3, 1) := o6 hcX11_place rfl
theorem dX11_place_103 : decode cX11_place 103 = .ok (.ireturn, 1) := o172 hcX11_place rfl
theorem dX11_place_104 : decode cX11_place 104 = .ok (.iconst 4, 1) := o7 hcX11_place rfl
theorem dX11_place_105 : decode cX11_place 105 = .ok (.ireturn, 1) := o172 hcX11_place rfl
theorem dX11_place_106 : decode cX11_place 106 = .ok (.iconst 5, 1) := o8 hcX11_place rfl
theorem dX11_place_107 : decode cX11_place 107 = .ok (.ireturn, 1) := o172 hcX11_place rfl
theorem dX11_place_108 : decode cX11_place 108 = .ok (.iconst (-1), 1) := o2 hcX11_place rfl
theorem dX11_place_109 : decode cX11_place 109 = .ok (.ireturn, 1) := o172 hcX11_place rfl
theorem dX11_takesTest_0 : decode cX11_takesTest 0 = .ok (.aload_n 0, 1) := o42 hcX11_takesTest rfl
theorem dX11_takesTest_1 : decode cX11_takesTest 1 = .ok (.aload_n 0, 1) := o42 hcX11_takesTest rfl
theorem dX11_takesTest_2 : decode cX11_takesTest 2 = .ok (.invokevirtual 239, 3) := o182 hcX11_takesTest rfl
theorem dX11_takesTest_5 : decode cX11_takesTest 5 = .ok (.invokevirtual 254, 3) := o182 hcX11_takesTest rfl
theorem dX11_takesTest_8 : decode cX11_takesTest 8 = .ok (.istore_n 1, 1) := o60 hcX11_takesTest rfl
theorem dX11_takesTest_9 : decode cX11_takesTest 9 = .ok (.iload_n 1, 1) := o27 hcX11_takesTest rfl
theorem dX11_takesTest_10 : decode cX11_takesTest 10 = .ok (.ifCond .ge 5, 3) := o156 hcX11_takesTest (a := 5) rfl rfl
theorem dX11_takesTest_13 : decode cX11_takesTest 13 = .ok (.iconst 0, 1) := o3 hcX11_takesTest rfl
theorem dX11_takesTest_14 : decode cX11_takesTest 14 = .ok (.ireturn, 1) := o172 hcX11_takesTest rfl
theorem dX11_takesTest_15 : decode cX11_takesTest 15 = .ok (.aload_n 0, 1) := o42 hcX11_takesTest rfl
theorem dX11_takesTest_16 : decode cX11_takesTest 16 = .ok (.dup, 1) := o89 hcX11_takesTest rfl
theorem dX11_takesTest_17 : decode cX11_takesTest 17 = .ok (.getfield 50, 3) := o180 hcX11_takesTest rfl
theorem dX11_takesTest_20 : decode cX11_takesTest 20 = .ok (.iconst 1, 1) := o4 hcX11_takesTest rfl
theorem dX11_takesTest_21 : decode cX11_takesTest 21 = .ok (.iadd, 1) := o96 hcX11_takesTest rfl
theorem dX11_takesTest_22 : decode cX11_takesTest 22 = .ok (.putfield 50, 3) := o181 hcX11_takesTest rfl
theorem dX11_takesTest_25 : decode cX11_takesTest 25 = .ok (.aload_n 0, 1) := o42 hcX11_takesTest rfl
theorem dX11_takesTest_26 : decode cX11_takesTest 26 = .ok (.invokevirtual 239, 3) := o182 hcX11_takesTest rfl
theorem dX11_takesTest_29 : decode cX11_takesTest 29 = .ok (.istore_n 2, 1) := o61 hcX11_takesTest rfl
theorem dX11_takesTest_30 : decode cX11_takesTest 30 = .ok (.aload_n 0, 1) := o42 hcX11_takesTest rfl
theorem dX11_takesTest_31 : decode cX11_takesTest 31 = .ok (.iload_n 2, 1) := o28 hcX11_takesTest rfl
theorem dX11_takesTest_32 : decode cX11_takesTest 32 = .ok (.bipush 60, 2) := o16 hcX11_takesTest (a := 60) rfl rfl
theorem dX11_takesTest_34 : decode cX11_takesTest 34 = .ok (.bipush 62, 2) := o16 hcX11_takesTest (a := 62) rfl rfl
theorem dX11_takesTest_36 : decode cX11_takesTest 36 = .ok (.invokevirtual 224, 3) := o182 hcX11_takesTest rfl
theorem dX11_takesTest_39 : decode cX11_takesTest 39 = .ok (.ifCond .ne 5, 3) := o154 hcX11_takesTest (a := 5) rfl rfl
theorem dX11_takesTest_42 : decode cX11_takesTest 42 = .ok (.iconst 0, 1) := o3 hcX11_takesTest rfl
theorem dX11_takesTest_43 : decode cX11_takesTest 43 = .ok (.ireturn, 1) := o172 hcX11_takesTest rfl
theorem dX11_takesTest_44 : decode cX11_takesTest 44 = .ok (.aload_n 0, 1) := o42 hcX11_takesTest rfl
theorem dX11_takesTest_45 : decode cX11_takesTest 45 = .ok (.dup, 1) := o89 hcX11_takesTest rfl
theorem dX11_takesTest_46 : decode cX11_takesTest 46 = .ok (.getfield 50, 3) := o180 hcX11_takesTest rfl
theorem dX11_takesTest_49 : decode cX11_takesTest 49 = .ok (.iconst 1, 1) := o4 hcX11_takesTest rfl
theorem dX11_takesTest_50 : decode cX11_takesTest 50 = .ok (.iadd, 1) := o96 hcX11_takesTest rfl
theorem dX11_takesTest_51 : decode cX11_takesTest 51 = .ok (.putfield 50, 3) := o181 hcX11_takesTest rfl
theorem dX11_takesTest_54 : decode cX11_takesTest 54 = .ok (.aload_n 0, 1) := o42 hcX11_takesTest rfl
theorem dX11_takesTest_55 : decode cX11_takesTest 55 = .ok (.invokevirtual 258, 3) := o182 hcX11_takesTest rfl
theorem dX11_takesTest_58 : decode cX11_takesTest 58 = .ok (.ifCond .ne 5, 3) := o154 hcX11_takesTest (a := 5) rfl rfl
theorem dX11_takesTest_61 : decode cX11_takesTest 61 = .ok (.iconst 0, 1) := o3 hcX11_takesTest rfl
theorem dX11_takesTest_62 : decode cX11_takesTest 62 = .ok (.ireturn, 1) := o172 hcX11_takesTest rfl
theorem dX11_takesTest_63 : decode cX11_takesTest 63 = .ok (.aload_n 0, 1) := o42 hcX11_takesTest rfl
theorem dX11_takesTest_64 : decode cX11_takesTest 64 = .ok (.sipush 1000, 3) := o17 hcX11_takesTest (a := 1000) rfl rfl
theorem dX11_takesTest_67 : decode cX11_takesTest 67 = .ok (.iload_n 1, 1) := o27 hcX11_takesTest rfl
theorem dX11_takesTest_68 : decode cX11_takesTest 68 = .ok (.imul, 1) := o104 hcX11_takesTest rfl
theorem dX11_takesTest_69 : decode cX11_takesTest 69 = .ok (.bipush 100, 2) := o16 hcX11_takesTest (a := 100) rfl rfl
theorem dX11_takesTest_71 : decode cX11_takesTest 71 = .ok (.iload_n 2, 1) := o28 hcX11_takesTest rfl
theorem dX11_takesTest_72 : decode cX11_takesTest 72 = .ok (.bipush 60, 2) := o16 hcX11_takesTest (a := 60) rfl rfl
theorem dX11_takesTest_74 : decode cX11_takesTest 74 = .ok (.isub, 1) := o100 hcX11_takesTest rfl
theorem dX11_takesTest_75 : decode cX11_takesTest 75 = .ok (.imul, 1) := o104 hcX11_takesTest rfl
theorem dX11_takesTest_76 : decode cX11_takesTest 76 = .ok (.iadd, 1) := o96 hcX11_takesTest rfl
theorem dX11_takesTest_77 : decode cX11_takesTest 77 = .ok (.aload_n 0, 1) := o42 hcX11_takesTest rfl
theorem dX11_takesTest_78 : decode cX11_takesTest 78 = .ok (.getfield 53, 3) := o180 hcX11_takesTest rfl
theorem dX11_takesTest_81 : decode cX11_takesTest 81 = .ok (.iadd, 1) := o96 hcX11_takesTest rfl
theorem dX11_takesTest_82 : decode cX11_takesTest 82 = .ok (.invokevirtual 250, 3) := o182 hcX11_takesTest rfl
theorem dX11_takesTest_85 : decode cX11_takesTest 85 = .ok (.aload_n 0, 1) := o42 hcX11_takesTest rfl
theorem dX11_takesTest_86 : decode cX11_takesTest 86 = .ok (.invokevirtual 261, 3) := o182 hcX11_takesTest rfl
theorem dX11_takesTest_89 : decode cX11_takesTest 89 = .ok (.iconst 1, 1) := o4 hcX11_takesTest rfl
theorem dX11_takesTest_90 : decode cX11_takesTest 90 = .ok (.ireturn, 1) := o172 hcX11_takesTest rfl
theorem dX11_takesE_0 : decode cX11_takesE 0 = .ok (.aload_n 0, 1) := o42 hcX11_takesE rfl
theorem dX11_takesE_1 : decode cX11_takesE 1 = .ok (.iconst 0, 1) := o3 hcX11_takesE rfl
theorem dX11_takesE_2 : decode cX11_takesE 2 = .ok (.putfield 83, 3) := o181 hcX11_takesE rfl
theorem dX11_takesE_5 : decode cX11_takesE 5 = .ok (.aload_n 0, 1) := o42 hcX11_takesE rfl
theorem dX11_takesE_6 : decode cX11_takesE 6 = .ok (.iconst 0, 1) := o3 hcX11_takesE rfl
theorem dX11_takesE_7 : decode cX11_takesE 7 = .ok (.putfield 86, 3) := o181 hcX11_takesE rfl
theorem dX11_takesE_10 : decode cX11_takesE 10 = .ok (.aload_n 0, 1) := o42 hcX11_takesE rfl
theorem dX11_takesE_11 : decode cX11_takesE 11 = .ok (.getfield 68, 3) := o180 hcX11_takesE rfl
theorem dX11_takesE_14 : decode cX11_takesE 14 = .ok (.iload_n 1, 1) := o27 hcX11_takesE rfl
theorem dX11_takesE_15 : decode cX11_takesE 15 = .ok (.aload_n 0, 1) := o42 hcX11_takesE rfl
theorem dX11_takesE_16 : decode cX11_takesE 16 = .ok (.getfield 80, 3) := o180 hcX11_takesE rfl
theorem dX11_takesE_19 : decode cX11_takesE 19 = .ok (.iastore, 1) := o79 hcX11_takesE rfl
theorem dX11_takesE_20 : decode cX11_takesE 20 = .ok (.iconst 1, 1) := o4 hcX11_takesE rfl
theorem dX11_takesE_21 : decode cX11_takesE 21 = .ok (.istore_n 2, 1) := o61 hcX11_takesE rfl
theorem dX11_takesE_22 : decode cX11_takesE 22 = .ok (.aload_n 0, 1) := o42 hcX11_takesE rfl
theorem dX11_takesE_23 : decode cX11_takesE 23 = .ok (.invokevirtual 239, 3) := o182 hcX11_takesE rfl
theorem dX11_takesE_26 : decode cX11_takesE 26 = .ok (.istore_n 3, 1) := o62 hcX11_takesE rfl
theorem dX11_takesE_27 : decode cX11_takesE 27 = .ok (.iload_n 2, 1) := o28 hcX11_takesE rfl
theorem dX11_takesE_28 : decode cX11_takesE 28 = .ok (.ifCond .eq 82, 3) := o153 hcX11_takesE (a := 82) rfl rfl
theorem dX11_takesE_31 : decode cX11_takesE 31 = .ok (.iload_n 3, 1) := o29 hcX11_takesE rfl
theorem dX11_takesE_32 : decode cX11_takesE 32 = .ok (.bipush 33, 2) := o16 hcX11_takesE (a := 33) rfl rfl
theorem dX11_takesE_34 : decode cX11_takesE 34 = .ok (.if_icmp .eq 9, 3) := o159 hcX11_takesE (a := 9) rfl rfl
theorem dX11_takesE_37 : decode cX11_takesE 37 = .ok (.iload_n 3, 1) := o29 hcX11_takesE rfl
theorem dX11_takesE_38 : decode cX11_takesE 38 = .ok (.bipush 40, 2) := o16 hcX11_takesE (a := 40) rfl rfl
theorem dX11_takesE_40 : decode cX11_takesE 40 = .ok (.if_icmp .ne 56, 3) := o160 hcX11_takesE (a := 56) rfl rfl
theorem dX11_takesE_43 : decode cX11_takesE 43 = .ok (.aload_n 0, 1) := o42 hcX11_takesE rfl
theorem dX11_takesE_44 : decode cX11_takesE 44 = .ok (.getfield 86, 3) := o180 hcX11_takesE rfl
theorem dX11_takesE_47 : decode cX11_takesE 47 = .ok (.iconst 4, 1) := o7 hcX11_takesE rfl
theorem dX11_takesE_48 : decode cX11_takesE 48 = .ok (.if_icmp .ne 5, 3) := o160 hcX11_takesE (a := 5) rfl rfl
theorem dX11_takesE_51 : decode cX11_takesE 51 = .ok (.iconst 0, 1) := o3 hcX11_takesE rfl
theorem dX11_takesE_52 : decode cX11_takesE 52 = .ok (.ireturn, 1) := o172 hcX11_takesE rfl
theorem dX11_takesE_53 : decode cX11_takesE 53 = .ok (.aload_n 0, 1) := o42 hcX11_takesE rfl
theorem dX11_takesE_54 : decode cX11_takesE 54 = .ok (.dup, 1) := o89 hcX11_takesE rfl
theorem dX11_takesE_55 : decode cX11_takesE 55 = .ok (.getfield 86, 3) := o180 hcX11_takesE rfl
theorem dX11_takesE_58 : decode cX11_takesE 58 = .ok (.iconst 1, 1) := o4 hcX11_takesE rfl
theorem dX11_takesE_59 : decode cX11_takesE 59 = .ok (.iadd, 1) := o96 hcX11_takesE rfl
theorem dX11_takesE_60 : decode cX11_takesE 60 = .ok (.putfield 86, 3) := o181 hcX11_takesE rfl
theorem dX11_takesE_63 : decode cX11_takesE 63 = .ok (.aload_n 0, 1) := o42 hcX11_takesE rfl
theorem dX11_takesE_64 : decode cX11_takesE 64 = .ok (.getfield 77, 3) := o180 hcX11_takesE rfl
theorem dX11_takesE_67 : decode cX11_takesE 67 = .ok (.aload_n 0, 1) := o42 hcX11_takesE rfl
theorem dX11_takesE_68 : decode cX11_takesE 68 = .ok (.getfield 83, 3) := o180 hcX11_takesE rfl
theorem dX11_takesE_71 : decode cX11_takesE 71 = .ok (.iload_n 3, 1) := o29 hcX11_takesE rfl
theorem dX11_takesE_72 : decode cX11_takesE 72 = .ok (.iastore, 1) := o79 hcX11_takesE rfl
theorem dX11_takesE_73 : decode cX11_takesE 73 = .ok (.aload_n 0, 1) := o42 hcX11_takesE rfl
theorem dX11_takesE_74 : decode cX11_takesE 74 = .ok (.dup, 1) := o89 hcX11_takesE rfl
theorem dX11_takesE_75 : decode cX11_takesE 75 = .ok (.getfield 83, 3) := o180 hcX11_takesE rfl
theorem dX11_takesE_78 : decode cX11_takesE 78 = .ok (.iconst 1, 1) := o4 hcX11_takesE rfl
theorem dX11_takesE_79 : decode cX11_takesE 79 = .ok (.iadd, 1) := o96 hcX11_takesE rfl
theorem dX11_takesE_80 : decode cX11_takesE 80 = .ok (.putfield 83, 3) := o181 hcX11_takesE rfl
theorem dX11_takesE_83 : decode cX11_takesE 83 = .ok (.aload_n 0, 1) := o42 hcX11_takesE rfl
theorem dX11_takesE_84 : decode cX11_takesE 84 = .ok (.dup, 1) := o89 hcX11_takesE rfl
theorem dX11_takesE_85 : decode cX11_takesE 85 = .ok (.getfield 50, 3) := o180 hcX11_takesE rfl
theorem dX11_takesE_88 : decode cX11_takesE 88 = .ok (.iconst 1, 1) := o4 hcX11_takesE rfl
theorem dX11_takesE_89 : decode cX11_takesE 89 = .ok (.iadd, 1) := o96 hcX11_takesE rfl
theorem dX11_takesE_90 : decode cX11_takesE 90 = .ok (.putfield 50, 3) := o181 hcX11_takesE rfl
theorem dX11_takesE_93 : decode cX11_takesE 93 = .ok (.goto (-71), 3) := o167 hcX11_takesE (a := 65465) rfl rfl
theorem dX11_takesE_96 : decode cX11_takesE 96 = .ok (.aload_n 0, 1) := o42 hcX11_takesE rfl
theorem dX11_takesE_97 : decode cX11_takesE 97 = .ok (.invokevirtual 264, 3) := o182 hcX11_takesE rfl
theorem dX11_takesE_100 : decode cX11_takesE 100 = .ok (.ifCond .eq 8, 3) := o153 hcX11_takesE (a := 8) rfl rfl
theorem dX11_takesE_103 : decode cX11_takesE 103 = .ok (.iconst 0, 1) := o3 hcX11_takesE rfl
theorem dX11_takesE_104 : decode cX11_takesE 104 = .ok (.istore_n 2, 1) := o61 hcX11_takesE rfl
theorem dX11_takesE_105 : decode cX11_takesE 105 = .ok (.goto (-83), 3) := o167 hcX11_takesE (a := 65453) rfl rfl
theorem dX11_takesE_108 : decode cX11_takesE 108 = .ok (.iconst 0, 1) := o3 hcX11_takesE rfl
theorem dX11_takesE_109 : decode cX11_takesE 109 = .ok (.ireturn, 1) := o172 hcX11_takesE rfl
theorem dX11_takesE_110 : decode cX11_takesE 110 = .ok (.iload_n 3, 1) := o29 hcX11_takesE rfl
theorem dX11_takesE_111 : decode cX11_takesE 111 = .ok (.bipush 38, 2) := o16 hcX11_takesE (a := 38) rfl rfl
theorem dX11_takesE_113 : decode cX11_takesE 113 = .ok (.if_icmp .eq 9, 3) := o159 hcX11_takesE (a := 9) rfl rfl
theorem dX11_takesE_116 : decode cX11_takesE 116 = .ok (.iload_n 3, 1) := o29 hcX11_takesE rfl
theorem dX11_takesE_117 : decode cX11_takesE 117 = .ok (.bipush 124, 2) := o16 hcX11_takesE (a := 124) rfl rfl
theorem dX11_takesE_119 : decode cX11_takesE 119 = .ok (.if_icmp .ne 43, 3) := o160 hcX11_takesE (a := 43) rfl rfl
theorem dX11_takesE_122 : decode cX11_takesE 122 = .ok (.aload_n 0, 1) := o42 hcX11_takesE rfl
theorem dX11_takesE_123 : decode cX11_takesE 123 = .ok (.iload_n 3, 1) := o29 hcX11_takesE rfl
theorem dX11_takesE_124 : decode cX11_takesE 124 = .ok (.invokevirtual 267, 3) := o182 hcX11_takesE rfl
theorem dX11_takesE_127 : decode cX11_takesE 127 = .ok (.aload_n 0, 1) := o42 hcX11_takesE rfl
theorem dX11_takesE_128 : decode cX11_takesE 128 = .ok (.getfield 77, 3) := o180 hcX11_takesE rfl
theorem dX11_takesE_131 : decode cX11_takesE 131 = .ok (.aload_n 0, 1) := o42 hcX11_takesE rfl
theorem dX11_takesE_132 : decode cX11_takesE 132 = .ok (.getfield 83, 3) := o180 hcX11_takesE rfl
theorem dX11_takesE_135 : decode cX11_takesE 135 = .ok (.iload_n 3, 1) := o29 hcX11_takesE rfl
theorem dX11_takesE_136 : decode cX11_takesE 136 = .ok (.iastore, 1) := o79 hcX11_takesE rfl
theorem dX11_takesE_137 : decode cX11_takesE 137 = .ok (.aload_n 0, 1) := o42 hcX11_takesE rfl
theorem dX11_takesE_138 : decode cX11_takesE 138 = .ok (.dup, 1) := o89 hcX11_takesE rfl
theorem dX11_takesE_139 : decode cX11_takesE 139 = .ok (.getfield 83, 3) := o180 hcX11_takesE rfl
theorem dX11_takesE_142 : decode cX11_takesE 142 = .ok (.iconst 1, 1) := o4 hcX11_takesE rfl
theorem dX11_takesE_143 : decode cX11_takesE 143 = .ok (.iadd, 1) := o96 hcX11_takesE rfl
theorem dX11_takesE_144 : decode cX11_takesE 144 = .ok (.putfield 83, 3) := o181 hcX11_takesE rfl
theorem dX11_takesE_147 : decode cX11_takesE 147 = .ok (.iconst 1, 1) := o4 hcX11_takesE rfl
theorem dX11_takesE_148 : decode cX11_takesE 148 = .ok (.istore_n 2, 1) := o61 hcX11_takesE rfl
theorem dX11_takesE_149 : decode cX11_takesE 149 = .ok (.aload_n 0, 1) := o42 hcX11_takesE rfl
theorem dX11_takesE_150 : decode cX11_takesE 150 = .ok (.dup, 1) := o89 hcX11_takesE rfl
theorem dX11_takesE_151 : decode cX11_takesE 151 = .ok (.getfield 50, 3) := o180 hcX11_takesE rfl
theorem dX11_takesE_154 : decode cX11_takesE 154 = .ok (.iconst 1, 1) := o4 hcX11_takesE rfl
theorem dX11_takesE_155 : decode cX11_takesE 155 = .ok (.iadd, 1) := o96 hcX11_takesE rfl
theorem dX11_takesE_156 : decode cX11_takesE 156 = .ok (.putfield 50, 3) := o181 hcX11_takesE rfl
theorem dX11_takesE_159 : decode cX11_takesE 159 = .ok (.goto (-137), 3) := o167 hcX11_takesE (a := 65399) rfl rfl
theorem dX11_takesE_162 : decode cX11_takesE 162 = .ok (.aload_n 0, 1) := o42 hcX11_takesE rfl
theorem dX11_takesE_163 : decode cX11_takesE 163 = .ok (.bipush 124, 2) := o16 hcX11_takesE (a := 124) rfl rfl
theorem dX11_takesE_165 : decode cX11_takesE 165 = .ok (.invokevirtual 267, 3) := o182 hcX11_takesE rfl
theorem dX11_takesE_168 : decode cX11_takesE 168 = .ok (.aload_n 0, 1) := o42 hcX11_takesE rfl
theorem dX11_takesE_169 : decode cX11_takesE 169 = .ok (.getfield 71, 3) := o180 hcX11_takesE rfl
theorem dX11_takesE_172 : decode cX11_takesE 172 = .ok (.iload_n 1, 1) := o27 hcX11_takesE rfl
theorem dX11_takesE_173 : decode cX11_takesE 173 = .ok (.aload_n 0, 1) := o42 hcX11_takesE rfl
theorem dX11_takesE_174 : decode cX11_takesE 174 = .ok (.getfield 80, 3) := o180 hcX11_takesE rfl
theorem dX11_takesE_177 : decode cX11_takesE 177 = .ok (.iastore, 1) := o79 hcX11_takesE rfl
theorem dX11_takesE_178 : decode cX11_takesE 178 = .ok (.aload_n 0, 1) := o42 hcX11_takesE rfl
theorem dX11_takesE_179 : decode cX11_takesE 179 = .ok (.getfield 83, 3) := o180 hcX11_takesE rfl
theorem dX11_takesE_182 : decode cX11_takesE 182 = .ok (.ifCond .ne 5, 3) := o154 hcX11_takesE (a := 5) rfl rfl
theorem dX11_takesE_185 : decode cX11_takesE 185 = .ok (.iconst 1, 1) := o4 hcX11_takesE rfl
theorem dX11_takesE_186 : decode cX11_takesE 186 = .ok (.ireturn, 1) := o172 hcX11_takesE rfl
theorem dX11_takesE_187 : decode cX11_takesE 187 = .ok (.iload_n 3, 1) := o29 hcX11_takesE rfl
theorem dX11_takesE_188 : decode cX11_takesE 188 = .ok (.bipush 41, 2) := o16 hcX11_takesE (a := 41) rfl rfl
theorem dX11_takesE_190 : decode cX11_takesE 190 = .ok (.if_icmp .eq 5, 3) := o159 hcX11_takesE (a := 5) rfl rfl
theorem dX11_takesE_193 : decode cX11_takesE 193 = .ok (.iconst 0, 1) := o3 hcX11_takesE rfl
theorem dX11_takesE_194 : decode cX11_takesE 194 = .ok (.ireturn, 1) := o172 hcX11_takesE rfl
theorem dX11_takesE_195 : decode cX11_takesE 195 = .ok (.aload_n 0, 1) := o42 hcX11_takesE rfl
theorem dX11_takesE_196 : decode cX11_takesE 196 = .ok (.dup, 1) := o89 hcX11_takesE rfl
theorem dX11_takesE_197 : decode cX11_takesE 197 = .ok (.getfield 83, 3) := o180 hcX11_takesE rfl
theorem dX11_takesE_200 : decode cX11_takesE 200 = .ok (.iconst 1, 1) := o4 hcX11_takesE rfl
theorem dX11_takesE_201 : decode cX11_takesE 201 = .ok (.isub, 1) := o100 hcX11_takesE rfl
theorem dX11_takesE_202 : decode cX11_takesE 202 = .ok (.putfield 83, 3) := o181 hcX11_takesE rfl
theorem dX11_takesE_205 : decode cX11_takesE 205 = .ok (.aload_n 0, 1) := o42 hcX11_takesE rfl
theorem dX11_takesE_206 : decode cX11_takesE 206 = .ok (.dup, 1) := o89 hcX11_takesE rfl
theorem dX11_takesE_207 : decode cX11_takesE 207 = .ok (.getfield 86, 3) := o180 hcX11_takesE rfl
theorem dX11_takesE_210 : decode cX11_takesE 210 = .ok (.iconst 1, 1) := o4 hcX11_takesE rfl
theorem dX11_takesE_211 : decode cX11_takesE 211 = .ok (.isub, 1) := o100 hcX11_takesE rfl
theorem dX11_takesE_212 : decode cX11_takesE 212 = .ok (.putfield 86, 3) := o181 hcX11_takesE rfl
theorem dX11_takesE_215 : decode cX11_takesE 215 = .ok (.aload_n 0, 1) := o42 hcX11_takesE rfl
theorem dX11_takesE_216 : decode cX11_takesE 216 = .ok (.dup, 1) := o89 hcX11_takesE rfl
theorem dX11_takesE_217 : decode cX11_takesE 217 = .ok (.getfield 50, 3) := o180 hcX11_takesE rfl
theorem dX11_takesE_220 : decode cX11_takesE 220 = .ok (.iconst 1, 1) := o4 hcX11_takesE rfl
theorem dX11_takesE_221 : decode cX11_takesE 221 = .ok (.iadd, 1) := o96 hcX11_takesE rfl
theorem dX11_takesE_222 : decode cX11_takesE 222 = .ok (.putfield 50, 3) := o181 hcX11_takesE rfl
theorem dX11_takesE_225 : decode cX11_takesE 225 = .ok (.aload_n 0, 1) := o42 hcX11_takesE rfl
theorem dX11_takesE_226 : decode cX11_takesE 226 = .ok (.invokevirtual 261, 3) := o182 hcX11_takesE rfl
theorem dX11_takesE_229 : decode cX11_takesE 229 = .ok (.goto (-207), 3) := o167 hcX11_takesE (a := 65329) rfl rfl
theorem dX11_takesHead_0 : decode cX11_takesHead 0 = .ok (.aload_n 0, 1) := o42 hcX11_takesHead rfl
theorem dX11_takesHead_1 : decode cX11_takesHead 1 = .ok (.invokevirtual 239, 3) := o182 hcX11_takesHead rfl
theorem dX11_takesHead_4 : decode cX11_takesHead 4 = .ok (.lookupswitch 56 #[(99, 28), (119, 42)], 28) := by decide +kernel
theorem dX11_takesHead_32 : decode cX11_takesHead 32 = .ok (.aload_n 0, 1) := o42 hcX11_takesHead rfl
theorem dX11_takesHead_33 : decode cX11_takesHead 33 = .ok (.getfield 62, 3) := o180 hcX11_takesHead rfl
theorem dX11_takesHead_36 : decode cX11_takesHead 36 = .ok (.iload_n 1, 1) := o27 hcX11_takesHead rfl
theorem dX11_takesHead_37 : decode cX11_takesHead 37 = .ok (.iconst 0, 1) := o3 hcX11_takesHead rfl
theorem dX11_takesHead_38 : decode cX11_takesHead 38 = .ok (.iastore, 1) := o79 hcX11_takesHead rfl
theorem dX11_takesHead_39 : decode cX11_takesHead 39 = .ok (.aload_n 0, 1) := o42 hcX11_takesHead rfl
theorem dX11_takesHead_40 : decode cX11_takesHead 40 = .ok (.iconst 0, 1) := o3 hcX11_takesHead rfl
theorem dX11_takesHead_41 : decode cX11_takesHead 41 = .ok (.iconst 5, 1) := o8 hcX11_takesHead rfl
theorem dX11_takesHead_42 : decode cX11_takesHead 42 = .ok (.invokevirtual 270, 3) := o182 hcX11_takesHead rfl
theorem dX11_takesHead_45 : decode cX11_takesHead 45 = .ok (.ireturn, 1) := o172 hcX11_takesHead rfl
theorem dX11_takesHead_46 : decode cX11_takesHead 46 = .ok (.aload_n 0, 1) := o42 hcX11_takesHead rfl
theorem dX11_takesHead_47 : decode cX11_takesHead 47 = .ok (.getfield 62, 3) := o180 hcX11_takesHead rfl
theorem dX11_takesHead_50 : decode cX11_takesHead 50 = .ok (.iload_n 1, 1) := o27 hcX11_takesHead rfl
theorem dX11_takesHead_51 : decode cX11_takesHead 51 = .ok (.iconst 1, 1) := o4 hcX11_takesHead rfl
theorem dX11_takesHead_52 : decode cX11_takesHead 52 = .ok (.iastore, 1) := o79 hcX11_takesHead rfl
theorem dX11_takesHead_53 : decode cX11_takesHead 53 = .ok (.aload_n 0, 1) := o42 hcX11_takesHead rfl
theorem dX11_takesHead_54 : decode cX11_takesHead 54 = .ok (.iconst 5, 1) := o8 hcX11_takesHead rfl
theorem dX11_takesHead_55 : decode cX11_takesHead 55 = .ok (.iconst 4, 1) := o7 hcX11_takesHead rfl
theorem dX11_takesHead_56 : decode cX11_takesHead 56 = .ok (.invokevirtual 270, 3) := o182 hcX11_takesHead rfl
theorem dX11_takesHead_59 : decode cX11_takesHead 59 = .ok (.ireturn, 1) := o172 hcX11_takesHead rfl
theorem dX11_takesHead_60 : decode cX11_takesHead 60 = .ok (.aload_n 0, 1) := o42 hcX11_takesHead rfl
theorem dX11_takesHead_61 : decode cX11_takesHead 61 = .ok (.getfield 62, 3) := o180 hcX11_takesHead rfl
theorem dX11_takesHead_64 : decode cX11_takesHead 64 = .ok (.iload_n 1, 1) := o27 hcX11_takesHead rfl
theorem dX11_takesHead_65 : decode cX11_takesHead 65 = .ok (.iconst 2, 1) := o5 hcX11_takesHead rfl
theorem dX11_takesHead_66 : decode cX11_takesHead 66 = .ok (.iastore, 1) := o79 hcX11_takesHead rfl
theorem dX11_takesHead_67 : decode cX11_takesHead 67 = .ok (.aload_n 0, 1) := o42 hcX11_takesHead rfl
theorem dX11_takesHead_68 : decode cX11_takesHead 68 = .ok (.bipush 9, 2) := o16 hcX11_takesHead (a := 9) rfl rfl
theorem dX11_takesHead_70 : decode cX11_takesHead 70 = .ok (.iconst 4, 1) := o7 hcX11_takesHead rfl
theorem dX11_takesHead_71 : decode cX11_takesHead 71 = .ok (.invokevirtual 270, 3) := o182 hcX11_takesHead rfl
theorem dX11_takesHead_74 : decode cX11_takesHead 74 = .ok (.ireturn, 1) := o172 hcX11_takesHead rfl
theorem dX11_takesClause_0 : decode cX11_takesClause 0 = .ok (.aload_n 0, 1) := o42 hcX11_takesClause rfl
theorem dX11_takesClause_1 : decode cX11_takesClause 1 = .ok (.iload_n 1, 1) := o27 hcX11_takesClause rfl
theorem dX11_takesClause_2 : decode cX11_takesClause 2 = .ok (.invokevirtual 274, 3) := o182 hcX11_takesClause rfl
theorem dX11_takesClause_5 : decode cX11_takesClause 5 = .ok (.ifCond .eq 10, 3) := o153 hcX11_takesClause (a := 10) rfl rfl
theorem dX11_takesClause_8 : decode cX11_takesClause 8 = .ok (.aload_n 0, 1) := o42 hcX11_takesClause rfl
theorem dX11_takesClause_9 : decode cX11_takesClause 9 = .ok (.invokevirtual 258, 3) := o182 hcX11_takesClause rfl
theorem dX11_takesClause_12 : decode cX11_takesClause 12 = .ok (.ifCond .ne 5, 3) := o154 hcX11_takesClause (a := 5) rfl rfl
theorem dX11_takesClause_15 : decode cX11_takesClause 15 = .ok (.iconst 0, 1) := o3 hcX11_takesClause rfl
theorem dX11_takesClause_16 : decode cX11_takesClause 16 = .ok (.ireturn, 1) := o172 hcX11_takesClause rfl
theorem dX11_takesClause_17 : decode cX11_takesClause 17 = .ok (.aload_n 0, 1) := o42 hcX11_takesClause rfl
theorem dX11_takesClause_18 : decode cX11_takesClause 18 = .ok (.getfield 65, 3) := o180 hcX11_takesClause rfl
theorem dX11_takesClause_21 : decode cX11_takesClause 21 = .ok (.iload_n 1, 1) := o27 hcX11_takesClause rfl
theorem dX11_takesClause_22 : decode cX11_takesClause 22 = .ok (.aload_n 0, 1) := o42 hcX11_takesClause rfl
theorem dX11_takesClause_23 : decode cX11_takesClause 23 = .ok (.getfield 53, 3) := o180 hcX11_takesClause rfl
theorem dX11_takesClause_26 : decode cX11_takesClause 26 = .ok (.iastore, 1) := o79 hcX11_takesClause rfl
theorem dX11_takesClause_27 : decode cX11_takesClause 27 = .ok (.aload_n 0, 1) := o42 hcX11_takesClause rfl
theorem dX11_takesClause_28 : decode cX11_takesClause 28 = .ok (.getfield 62, 3) := o180 hcX11_takesClause rfl
theorem dX11_takesClause_31 : decode cX11_takesClause 31 = .ok (.iload_n 1, 1) := o27 hcX11_takesClause rfl
theorem dX11_takesClause_32 : decode cX11_takesClause 32 = .ok (.iaload, 1) := o46 hcX11_takesClause rfl
theorem dX11_takesClause_33 : decode cX11_takesClause 33 = .ok (.iconst 2, 1) := o5 hcX11_takesClause rfl
theorem dX11_takesClause_34 : decode cX11_takesClause 34 = .ok (.if_icmp .eq 20, 3) := o159 hcX11_takesClause (a := 20) rfl rfl
theorem dX11_takesClause_37 : decode cX11_takesClause 37 = .ok (.aload_n 0, 1) := o42 hcX11_takesClause rfl
theorem dX11_takesClause_38 : decode cX11_takesClause 38 = .ok (.bipush 32, 2) := o16 hcX11_takesClause (a := 32) rfl rfl
theorem dX11_takesClause_40 : decode cX11_takesClause 40 = .ok (.invokevirtual 243, 3) := o182 hcX11_takesClause rfl
theorem dX11_takesClause_43 : decode cX11_takesClause 43 = .ok (.ifCond .eq 15, 3) := o153 hcX11_takesClause (a := 15) rfl rfl
theorem dX11_takesClause_46 : decode cX11_takesClause 46 = .ok (.aload_n 0, 1) := o42 hcX11_takesClause rfl
theorem dX11_takesClause_47 : decode cX11_takesClause 47 = .ok (.iload_n 1, 1) := o27 hcX11_takesClause rfl
theorem dX11_takesClause_48 : decode cX11_takesClause 48 = .ok (.invokevirtual 277, 3) := o182 hcX11_takesClause rfl
theorem dX11_takesClause_51 : decode cX11_takesClause 51 = .ok (.ifCond .eq 7, 3) := o153 hcX11_takesClause (a := 7) rfl rfl
theorem dX11_takesClause_54 : decode cX11_takesClause 54 = .ok (.iconst 1, 1) := o4 hcX11_takesClause rfl
theorem dX11_takesClause_55 : decode cX11_takesClause 55 = .ok (.goto 4, 3) := o167 hcX11_takesClause (a := 4) rfl rfl
theorem dX11_takesClause_58 : decode cX11_takesClause 58 = .ok (.iconst 0, 1) := o3 hcX11_takesClause rfl
theorem dX11_takesClause_59 : decode cX11_takesClause 59 = .ok (.ireturn, 1) := o172 hcX11_takesClause rfl
theorem dX11_goesText_0 : decode cX11_goesText 0 = .ok (.aload_n 0, 1) := o42 hcX11_goesText rfl
theorem dX11_goesText_1 : decode cX11_goesText 1 = .ok (.iconst 0, 1) := o3 hcX11_goesText rfl
theorem dX11_goesText_2 : decode cX11_goesText 2 = .ok (.putfield 50, 3) := o181 hcX11_goesText rfl
theorem dX11_goesText_5 : decode cX11_goesText 5 = .ok (.aload_n 0, 1) := o42 hcX11_goesText rfl
theorem dX11_goesText_6 : decode cX11_goesText 6 = .ok (.bipush 100, 2) := o16 hcX11_goesText (a := 100) rfl rfl
theorem dX11_goesText_8 : decode cX11_goesText 8 = .ok (.iload_n 1, 1) := o27 hcX11_goesText rfl
theorem dX11_goesText_9 : decode cX11_goesText 9 = .ok (.imul, 1) := o104 hcX11_goesText rfl
theorem dX11_goesText_10 : decode cX11_goesText 10 = .ok (.putfield 80, 3) := o181 hcX11_goesText rfl
theorem dX11_goesText_13 : decode cX11_goesText 13 = .ok (.iconst 0, 1) := o3 hcX11_goesText rfl
theorem dX11_goesText_14 : decode cX11_goesText 14 = .ok (.istore_n 2, 1) := o61 hcX11_goesText rfl
theorem dX11_goesText_15 : decode cX11_goesText 15 = .ok (.aload_n 0, 1) := o42 hcX11_goesText rfl
theorem dX11_goesText_16 : decode cX11_goesText 16 = .ok (.bipush 10, 2) := o16 hcX11_goesText (a := 10) rfl rfl
theorem dX11_goesText_18 : decode cX11_goesText 18 = .ok (.iload_n 1, 1) := o27 hcX11_goesText rfl
theorem dX11_goesText_19 : decode cX11_goesText 19 = .ok (.imul, 1) := o104 hcX11_goesText rfl
theorem dX11_goesText_20 : decode cX11_goesText 20 = .ok (.iload_n 2, 1) := o28 hcX11_goesText rfl
theorem dX11_goesText_21 : decode cX11_goesText 21 = .ok (.iadd, 1) := o96 hcX11_goesText rfl
theorem dX11_goesText_22 : decode cX11_goesText 22 = .ok (.invokevirtual 280, 3) := o182 hcX11_goesText rfl
theorem dX11_goesText_25 : decode cX11_goesText 25 = .ok (.ifCond .ne 5, 3) := o154 hcX11_goesText (a := 5) rfl rfl
theorem dX11_goesText_28 : decode cX11_goesText 28 = .ok (.iconst 0, 1) := o3 hcX11_goesText rfl
theorem dX11_goesText_29 : decode cX11_goesText 29 = .ok (.ireturn, 1) := o172 hcX11_goesText rfl
theorem dX11_goesText_30 : decode cX11_goesText 30 = .ok (.iinc 2 1, 3) := o132 hcX11_goesText (b := 1) rfl rfl
theorem dX11_goesText_33 : decode cX11_goesText 33 = .ok (.aload_n 0, 1) := o42 hcX11_goesText rfl
theorem dX11_goesText_34 : decode cX11_goesText 34 = .ok (.getfield 59, 3) := o180 hcX11_goesText rfl
theorem dX11_goesText_37 : decode cX11_goesText 37 = .ok (.iload_n 1, 1) := o27 hcX11_goesText rfl
theorem dX11_goesText_38 : decode cX11_goesText 38 = .ok (.iload_n 2, 1) := o28 hcX11_goesText rfl
theorem dX11_goesText_39 : decode cX11_goesText 39 = .ok (.iastore, 1) := o79 hcX11_goesText rfl
theorem dX11_goesText_40 : decode cX11_goesText 40 = .ok (.aload_n 0, 1) := o42 hcX11_goesText rfl
theorem dX11_goesText_41 : decode cX11_goesText 41 = .ok (.getfield 50, 3) := o180 hcX11_goesText rfl
theorem dX11_goesText_44 : decode cX11_goesText 44 = .ok (.aload_n 0, 1) := o42 hcX11_goesText rfl
theorem dX11_goesText_45 : decode cX11_goesText 45 = .ok (.getfield 47, 3) := o180 hcX11_goesText rfl
theorem dX11_goesText_48 : decode cX11_goesText 48 = .ok (.if_icmp .ne 5, 3) := o160 hcX11_goesText (a := 5) rfl rfl
theorem dX11_goesText_51 : decode cX11_goesText 51 = .ok (.iconst 1, 1) := o4 hcX11_goesText rfl
theorem dX11_goesText_52 : decode cX11_goesText 52 = .ok (.ireturn, 1) := o172 hcX11_goesText rfl
theorem dX11_goesText_53 : decode cX11_goesText 53 = .ok (.iload_n 2, 1) := o28 hcX11_goesText rfl
theorem dX11_goesText_54 : decode cX11_goesText 54 = .ok (.bipush 10, 2) := o16 hcX11_goesText (a := 10) rfl rfl
theorem dX11_goesText_56 : decode cX11_goesText 56 = .ok (.if_icmp .eq 12, 3) := o159 hcX11_goesText (a := 12) rfl rfl
theorem dX11_goesText_59 : decode cX11_goesText 59 = .ok (.aload_n 0, 1) := o42 hcX11_goesText rfl
theorem dX11_goesText_60 : decode cX11_goesText 60 = .ok (.bipush 59, 2) := o16 hcX11_goesText (a := 59) rfl rfl
theorem dX11_goesText_62 : decode cX11_goesText 62 = .ok (.invokevirtual 243, 3) := o182 hcX11_goesText rfl
theorem dX11_goesText_65 : decode cX11_goesText 65 = .ok (.ifCond .ne (-50), 3) := o154 hcX11_goesText (a := 65486) rfl rfl
theorem dX11_goesText_68 : decode cX11_goesText 68 = .ok (.iconst 0, 1) := o3 hcX11_goesText rfl
theorem dX11_goesText_69 : decode cX11_goesText 69 = .ok (.ireturn, 1) := o172 hcX11_goesText rfl
theorem dX11_town_0 : decode cX11_town 0 = .ok (.aload_n 0, 1) := o42 hcX11_town rfl
theorem dX11_town_1 : decode cX11_town 1 = .ok (.getfield 41, 3) := o180 hcX11_town rfl
theorem dX11_town_4 : decode cX11_town 4 = .ok (.bipush 6, 2) := o16 hcX11_town (a := 6) rfl rfl
theorem dX11_town_6 : decode cX11_town 6 = .ok (.if_icmp .ne 6, 3) := o160 hcX11_town (a := 6) rfl rfl
theorem dX11_town_9 : decode cX11_town 9 = .ok (.bipush (-4), 2) := o16 hcX11_town (a := 252) rfl rfl
theorem dX11_town_11 : decode cX11_town 11 = .ok (.ireturn, 1) := o172 hcX11_town rfl
theorem dX11_town_12 : decode cX11_town 12 = .ok (.aload_n 0, 1) := o42 hcX11_town rfl
theorem dX11_town_13 : decode cX11_town 13 = .ok (.aload_n 0, 1) := o42 hcX11_town rfl
theorem dX11_town_14 : decode cX11_town 14 = .ok (.getfield 41, 3) := o180 hcX11_town rfl
theorem dX11_town_17 : decode cX11_town 17 = .ok (.invokevirtual 283, 3) := o182 hcX11_town rfl
theorem dX11_town_20 : decode cX11_town 20 = .ok (.istore_n 1, 1) := o60 hcX11_town rfl
theorem dX11_town_21 : decode cX11_town 21 = .ok (.aload_n 0, 1) := o42 hcX11_town rfl
theorem dX11_town_22 : decode cX11_town 22 = .ok (.iconst 0, 1) := o3 hcX11_town rfl
theorem dX11_town_23 : decode cX11_town 23 = .ok (.putfield 47, 3) := o181 hcX11_town rfl
theorem dX11_town_26 : decode cX11_town 26 = .ok (.iload_n 1, 1) := o27 hcX11_town rfl
theorem dX11_town_27 : decode cX11_town 27 = .ok (.ifCond .ne 11, 3) := o154 hcX11_town (a := 11) rfl rfl
theorem dX11_town_30 : decode cX11_town 30 = .ok (.bipush (-10), 2) := o16 hcX11_town (a := 246) rfl rfl
theorem dX11_town_32 : decode cX11_town 32 = .ok (.aload_n 0, 1) := o42 hcX11_town rfl
theorem dX11_town_33 : decode cX11_town 33 = .ok (.getfield 50, 3) := o180 hcX11_town rfl
theorem dX11_town_36 : decode cX11_town 36 = .ok (.isub, 1) := o100 hcX11_town rfl
theorem dX11_town_37 : decode cX11_town 37 = .ok (.ireturn, 1) := o172 hcX11_town rfl
theorem dX11_town_38 : decode cX11_town 38 = .ok (.aload_n 0, 1) := o42 hcX11_town rfl
theorem dX11_town_39 : decode cX11_town 39 = .ok (.aload_n 0, 1) := o42 hcX11_town rfl
theorem dX11_town_40 : decode cX11_town 40 = .ok (.getfield 41, 3) := o180 hcX11_town rfl
theorem dX11_town_43 : decode cX11_town 43 = .ok (.putfield 44, 3) := o181 hcX11_town rfl
theorem dX11_town_46 : decode cX11_town 46 = .ok (.aload_n 0, 1) := o42 hcX11_town rfl
theorem dX11_town_47 : decode cX11_town 47 = .ok (.dup, 1) := o89 hcX11_town rfl
theorem dX11_town_48 : decode cX11_town 48 = .ok (.getfield 41, 3) := o180 hcX11_town rfl
theorem dX11_town_51 : decode cX11_town 51 = .ok (.iconst 1, 1) := o4 hcX11_town rfl
theorem dX11_town_52 : decode cX11_town 52 = .ok (.iadd, 1) := o96 hcX11_town rfl
theorem dX11_town_53 : decode cX11_town 53 = .ok (.putfield 41, 3) := o181 hcX11_town rfl
theorem dX11_town_56 : decode cX11_town 56 = .ok (.aload_n 0, 1) := o42 hcX11_town rfl
theorem dX11_town_57 : decode cX11_town 57 = .ok (.getfield 44, 3) := o180 hcX11_town rfl
theorem dX11_town_60 : decode cX11_town 60 = .ok (.ireturn, 1) := o172 hcX11_town rfl
theorem dX11_begin_0 : decode cX11_begin 0 = .ok (.aload_n 0, 1) := o42 hcX11_begin rfl
theorem dX11_begin_1 : decode cX11_begin 1 = .ok (.getfield 44, 3) := o180 hcX11_begin rfl
theorem dX11_begin_4 : decode cX11_begin 4 = .ok (.ifCond .ge 7, 3) := o156 hcX11_begin (a := 7) rfl rfl
theorem dX11_begin_7 : decode cX11_begin 7 = .ok (.iconst 0, 1) := o3 hcX11_begin rfl
theorem dX11_begin_8 : decode cX11_begin 8 = .ok (.goto 10, 3) := o167 hcX11_begin (a := 10) rfl rfl
theorem dX11_begin_11 : decode cX11_begin 11 = .ok (.bipush 10, 2) := o16 hcX11_begin (a := 10) rfl rfl
theorem dX11_begin_13 : decode cX11_begin 13 = .ok (.aload_n 0, 1) := o42 hcX11_begin rfl
theorem dX11_begin_14 : decode cX11_begin 14 = .ok (.getfield 44, 3) := o180 hcX11_begin rfl
theorem dX11_begin_17 : decode cX11_begin 17 = .ok (.imul, 1) := o104 hcX11_begin rfl
theorem dX11_begin_18 : decode cX11_begin 18 = .ok (.ireturn, 1) := o172 hcX11_begin rfl
theorem dX11_behind_0 : decode cX11_behind 0 = .ok (.aload_n 0, 1) := o42 hcX11_behind rfl
theorem dX11_behind_1 : decode cX11_behind 1 = .ok (.getfield 44, 3) := o180 hcX11_behind rfl
theorem dX11_behind_4 : decode cX11_behind 4 = .ok (.ifCond .ge 7, 3) := o156 hcX11_behind (a := 7) rfl rfl
theorem dX11_behind_7 : decode cX11_behind 7 = .ok (.iconst 0, 1) := o3 hcX11_behind rfl
theorem dX11_behind_8 : decode cX11_behind 8 = .ok (.goto 20, 3) := o167 hcX11_behind (a := 20) rfl rfl
theorem dX11_behind_11 : decode cX11_behind 11 = .ok (.bipush 10, 2) := o16 hcX11_behind (a := 10) rfl rfl
theorem dX11_behind_13 : decode cX11_behind 13 = .ok (.aload_n 0, 1) := o42 hcX11_behind rfl
theorem dX11_behind_14 : decode cX11_behind 14 = .ok (.getfield 44, 3) := o180 hcX11_behind rfl
theorem dX11_behind_17 : decode cX11_behind 17 = .ok (.imul, 1) := o104 hcX11_behind rfl
theorem dX11_behind_18 : decode cX11_behind 18 = .ok (.aload_n 0, 1) := o42 hcX11_behind rfl
theorem dX11_behind_19 : decode cX11_behind 19 = .ok (.getfield 59, 3) := o180 hcX11_behind rfl
theorem dX11_behind_22 : decode cX11_behind 22 = .ok (.aload_n 0, 1) := o42 hcX11_behind rfl
theorem dX11_behind_23 : decode cX11_behind 23 = .ok (.getfield 44, 3) := o180 hcX11_behind rfl
theorem dX11_behind_26 : decode cX11_behind 26 = .ok (.iaload, 1) := o46 hcX11_behind rfl
theorem dX11_behind_27 : decode cX11_behind 27 = .ok (.iadd, 1) := o96 hcX11_behind rfl
theorem dX11_behind_28 : decode cX11_behind 28 = .ok (.ireturn, 1) := o172 hcX11_behind rfl
theorem dX11_dawn_0 : decode cX11_dawn 0 = .ok (.bipush 60, 2) := o16 hcX11_dawn (a := 60) rfl rfl
theorem dX11_dawn_2 : decode cX11_dawn 2 = .ok (.istore_n 1, 1) := o60 hcX11_dawn rfl
theorem dX11_dawn_3 : decode cX11_dawn 3 = .ok (.aload_n 0, 1) := o42 hcX11_dawn rfl
theorem dX11_dawn_4 : decode cX11_dawn 4 = .ok (.invokevirtual 286, 3) := o182 hcX11_dawn rfl
theorem dX11_dawn_7 : decode cX11_dawn 7 = .ok (.istore_n 2, 1) := o61 hcX11_dawn rfl
theorem dX11_dawn_8 : decode cX11_dawn 8 = .ok (.iload_n 2, 1) := o28 hcX11_dawn rfl
theorem dX11_dawn_9 : decode cX11_dawn 9 = .ok (.aload_n 0, 1) := o42 hcX11_dawn rfl
theorem dX11_dawn_10 : decode cX11_dawn 10 = .ok (.invokevirtual 289, 3) := o182 hcX11_dawn rfl
theorem dX11_dawn_13 : decode cX11_dawn 13 = .ok (.if_icmp .ge 30, 3) := o162 hcX11_dawn (a := 30) rfl rfl
theorem dX11_dawn_16 : decode cX11_dawn 16 = .ok (.aload_n 0, 1) := o42 hcX11_dawn rfl
theorem dX11_dawn_17 : decode cX11_dawn 17 = .ok (.getfield 62, 3) := o180 hcX11_dawn rfl
theorem dX11_dawn_20 : decode cX11_dawn 20 = .ok (.iload_n 2, 1) := o28 hcX11_dawn rfl
theorem dX11_dawn_21 : decode cX11_dawn 21 = .ok (.iaload, 1) := o46 hcX11_dawn rfl
theorem dX11_dawn_22 : decode cX11_dawn 22 = .ok (.iconst 2, 1) := o5 hcX11_dawn rfl
theorem dX11_dawn_23 : decode cX11_dawn 23 = .ok (.if_icmp .ne 12, 3) := o160 hcX11_dawn (a := 12) rfl rfl
theorem dX11_dawn_26 : decode cX11_dawn 26 = .ok (.aload_n 0, 1) := o42 hcX11_dawn rfl
theorem dX11_dawn_27 : decode cX11_dawn 27 = .ok (.getfield 65, 3) := o180 hcX11_dawn rfl
theorem dX11_dawn_30 : decode cX11_dawn 30 = .ok (.iload_n 2, 1) := o28 hcX11_dawn rfl
theorem dX11_dawn_31 : decode cX11_dawn 31 = .ok (.iaload, 1) := o46 hcX11_dawn rfl
theorem dX11_dawn_32 : decode cX11_dawn 32 = .ok (.goto 4, 3) := o167 hcX11_dawn (a := 4) rfl rfl
theorem dX11_dawn_35 : decode cX11_dawn 35 = .ok (.iload_n 1, 1) := o27 hcX11_dawn rfl
theorem dX11_dawn_36 : decode cX11_dawn 36 = .ok (.istore_n 1, 1) := o60 hcX11_dawn rfl
theorem dX11_dawn_37 : decode cX11_dawn 37 = .ok (.iinc 2 1, 3) := o132 hcX11_dawn (b := 1) rfl rfl
theorem dX11_dawn_40 : decode cX11_dawn 40 = .ok (.goto (-32), 3) := o167 hcX11_dawn (a := 65504) rfl rfl
theorem dX11_dawn_43 : decode cX11_dawn 43 = .ok (.iload_n 1, 1) := o27 hcX11_dawn rfl
theorem dX11_dawn_44 : decode cX11_dawn 44 = .ok (.ireturn, 1) := o172 hcX11_dawn rfl
theorem dX11_factOf_0 : decode cX11_factOf 0 = .ok (.iload_n 1, 1) := o27 hcX11_factOf rfl
theorem dX11_factOf_1 : decode cX11_factOf 1 = .ok (.tableswitch 63 0 4 #[35, 37, 39, 46, 53], 35) := by decide +kernel
theorem dX11_factOf_36 : decode cX11_factOf 36 = .ok (.iload_n 2, 1) := o28 hcX11_factOf rfl
theorem dX11_factOf_37 : decode cX11_factOf 37 = .ok (.ireturn, 1) := o172 hcX11_factOf rfl
theorem dX11_factOf_38 : decode cX11_factOf 38 = .ok (.iload_n 3, 1) := o29 hcX11_factOf rfl
theorem dX11_factOf_39 : decode cX11_factOf 39 = .ok (.ireturn, 1) := o172 hcX11_factOf rfl
theorem dX11_factOf_40 : decode cX11_factOf 40 = .ok (.aload_n 0, 1) := o42 hcX11_factOf rfl
theorem dX11_factOf_41 : decode cX11_factOf 41 = .ok (.getfield 16, 3) := o180 hcX11_factOf rfl
theorem dX11_factOf_44 : decode cX11_factOf 44 = .ok (.iload_n 3, 1) := o29 hcX11_factOf rfl
theorem dX11_factOf_45 : decode cX11_factOf 45 = .ok (.iaload, 1) := o46 hcX11_factOf rfl
theorem dX11_factOf_46 : decode cX11_factOf 46 = .ok (.ireturn, 1) := o172 hcX11_factOf rfl
theorem dX11_factOf_47 : decode cX11_factOf 47 = .ok (.aload_n 0, 1) := o42 hcX11_factOf rfl
theorem dX11_factOf_48 : decode cX11_factOf 48 = .ok (.getfield 20, 3) := o180 hcX11_factOf rfl
theorem dX11_factOf_51 : decode cX11_factOf 51 = .ok (.iload_n 3, 1) := o29 hcX11_factOf rfl
theorem dX11_factOf_52 : decode cX11_factOf 52 = .ok (.iaload, 1) := o46 hcX11_factOf rfl
theorem dX11_factOf_53 : decode cX11_factOf 53 = .ok (.ireturn, 1) := o172 hcX11_factOf rfl
theorem dX11_factOf_54 : decode cX11_factOf 54 = .ok (.aload_n 0, 1) := o42 hcX11_factOf rfl
theorem dX11_factOf_55 : decode cX11_factOf 55 = .ok (.getfield 23, 3) := o180 hcX11_factOf rfl
theorem dX11_factOf_58 : decode cX11_factOf 58 = .ok (.iload_n 3, 1) := o29 hcX11_factOf rfl
theorem dX11_factOf_59 : decode cX11_factOf 59 = .ok (.iaload, 1) := o46 hcX11_factOf rfl
theorem dX11_factOf_60 : decode cX11_factOf 60 = .ok (.bipush 10, 2) := o16 hcX11_factOf (a := 10) rfl rfl
theorem dX11_factOf_62 : decode cX11_factOf 62 = .ok (.idiv, 1) := o108 hcX11_factOf rfl
theorem dX11_factOf_63 : decode cX11_factOf 63 = .ok (.ireturn, 1) := o172 hcX11_factOf rfl
theorem dX11_factOf_64 : decode cX11_factOf 64 = .ok (.iload 4, 2) := o21 hcX11_factOf rfl
theorem dX11_factOf_66 : decode cX11_factOf 66 = .ok (.ireturn, 1) := o172 hcX11_factOf rfl
theorem dX11_holds_0 : decode cX11_holds 0 = .ok (.iconst 0, 1) := o3 hcX11_holds rfl
theorem dX11_holds_1 : decode cX11_holds 1 = .ok (.istore 5, 2) := o54 hcX11_holds rfl
theorem dX11_holds_3 : decode cX11_holds 3 = .ok (.aload_n 0, 1) := o42 hcX11_holds rfl
theorem dX11_holds_4 : decode cX11_holds 4 = .ok (.getfield 68, 3) := o180 hcX11_holds rfl
theorem dX11_holds_7 : decode cX11_holds 7 = .ok (.iload_n 1, 1) := o27 hcX11_holds rfl
theorem dX11_holds_8 : decode cX11_holds 8 = .ok (.iaload, 1) := o46 hcX11_holds rfl
theorem dX11_holds_9 : decode cX11_holds 9 = .ok (.istore 6, 2) := o54 hcX11_holds rfl
theorem dX11_holds_11 : decode cX11_holds 11 = .ok (.iload 6, 2) := o21 hcX11_holds rfl
theorem dX11_holds_13 : decode cX11_holds 13 = .ok (.aload_n 0, 1) := o42 hcX11_holds rfl
theorem dX11_holds_14 : decode cX11_holds 14 = .ok (.getfield 71, 3) := o180 hcX11_holds rfl
theorem dX11_holds_17 : decode cX11_holds 17 = .ok (.iload_n 1, 1) := o27 hcX11_holds rfl
theorem dX11_holds_18 : decode cX11_holds 18 = .ok (.iaload, 1) := o46 hcX11_holds rfl
theorem dX11_holds_19 : decode cX11_holds 19 = .ok (.if_icmp .ge 236, 3) := o162 hcX11_holds (a := 236) rfl rfl
theorem dX11_holds_22 : decode cX11_holds 22 = .ok (.aload_n 0, 1) := o42 hcX11_holds rfl
theorem dX11_holds_23 : decode cX11_holds 23 = .ok (.getfield 74, 3) := o180 hcX11_holds rfl
theorem dX11_holds_26 : decode cX11_holds 26 = .ok (.iload 6, 2) := o21 hcX11_holds rfl
theorem dX11_holds_28 : decode cX11_holds 28 = .ok (.iaload, 1) := o46 hcX11_holds rfl
theorem dX11_holds_29 : decode cX11_holds 29 = .ok (.istore 7, 2) := o54 hcX11_holds rfl
theorem dX11_holds_31 : decode cX11_holds 31 = .ok (.iload 7, 2) := o21 hcX11_holds rfl
theorem dX11_holds_33 : decode cX11_holds 33 = .ok (.bipush (-33), 2) := o16 hcX11_holds (a := 223) rfl rfl
theorem dX11_holds_35 : decode cX11_holds 35 = .ok (.if_icmp .ne 32, 3) := o160 hcX11_holds (a := 32) rfl rfl
theorem dX11_holds_38 : decode cX11_holds 38 = .ok (.aload_n 0, 1) := o42 hcX11_holds rfl
theorem dX11_holds_39 : decode cX11_holds 39 = .ok (.getfield 92, 3) := o180 hcX11_holds rfl
theorem dX11_holds_42 : decode cX11_holds 42 = .ok (.iload 5, 2) := o21 hcX11_holds rfl
theorem dX11_holds_44 : decode cX11_holds 44 = .ok (.iconst 1, 1) := o4 hcX11_holds rfl
theorem dX11_holds_45 : decode cX11_holds 45 = .ok (.isub, 1) := o100 hcX11_holds rfl
theorem dX11_holds_46 : decode cX11_holds 46 = .ok (.aload_n 0, 1) := o42 hcX11_holds rfl
theorem dX11_holds_47 : decode cX11_holds 47 = .ok (.getfield 92, 3) := o180 hcX11_holds rfl
theorem dX11_holds_50 : decode cX11_holds 50 = .ok (.iload 5, 2) := o21 hcX11_holds rfl
theorem dX11_holds_52 : decode cX11_holds 52 = .ok (.iconst 1, 1) := o4 hcX11_holds rfl
theorem dX11_holds_53 : decode cX11_holds 53 = .ok (.isub, 1) := o100 hcX11_holds rfl
theorem dX11_holds_54 : decode cX11_holds 54 = .ok (.baload, 1) := o51 hcX11_holds rfl
theorem dX11_holds_55 : decode cX11_holds 55 = .ok (.ifCond .ne 7, 3) := o154 hcX11_holds (a := 7) rfl rfl
theorem dX11_holds_58 : decode cX11_holds 58 = .ok (.iconst 1, 1) := o4 hcX11_holds rfl
theorem dX11_holds_59 : decode cX11_holds 59 = .ok (.goto 4, 3) := o167 hcX11_holds (a := 4) rfl rfl
theorem dX11_holds_62 : decode cX11_holds 62 = .ok (.iconst 0, 1) := o3 hcX11_holds rfl
theorem dX11_holds_63 : decode cX11_holds 63 = .ok (.bastore, 1) := o84 hcX11_holds rfl
theorem dX11_holds_64 : decode cX11_holds 64 = .ok (.goto 185, 3) := o167 hcX11_holds (a := 185) rfl rfl
theorem dX11_holds_67 : decode cX11_holds 67 = .ok (.iload 7, 2) := o21 hcX11_holds rfl
theorem dX11_holds_69 : decode cX11_holds 69 = .ok (.ifCond .ge 82, 3) := o156 hcX11_holds (a := 82) rfl rfl
theorem dX11_holds_72 : decode cX11_holds 72 = .ok (.iinc 5 (-1), 3) := o132 hcX11_holds (b := 255) rfl rfl
theorem dX11_holds_75 : decode cX11_holds 75 = .ok (.aload_n 0, 1) := o42 hcX11_holds rfl
theorem dX11_holds_76 : decode cX11_holds 76 = .ok (.getfield 92, 3) := o180 hcX11_holds rfl
theorem dX11_holds_79 : decode cX11_holds 79 = .ok (.iload 5, 2) := o21 hcX11_holds rfl
theorem dX11_holds_81 : decode cX11_holds 81 = .ok (.iconst 1, 1) := o4 hcX11_holds rfl
theorem dX11_holds_82 : decode cX11_holds 82 = .ok (.isub, 1) := o100 hcX11_holds rfl
theorem dX11_holds_83 : decode cX11_holds 83 = .ok (.iload 7, 2) := o21 hcX11_holds rfl
theorem dX11_holds_85 : decode cX11_holds 85 = .ok (.bipush (-38), 2) := o16 hcX11_holds (a := 218) rfl rfl
theorem dX11_holds_87 : decode cX11_holds 87 = .ok (.if_icmp .ne 33, 3) := o160 hcX11_holds (a := 33) rfl rfl
theorem dX11_holds_90 : decode cX11_holds 90 = .ok (.aload_n 0, 1) := o42 hcX11_holds rfl
theorem dX11_holds_91 : decode cX11_holds 91 = .ok (.getfield 92, 3) := o180 hcX11_holds rfl
theorem dX11_holds_94 : decode cX11_holds 94 = .ok (.iload 5, 2) := o21 hcX11_holds rfl
theorem dX11_holds_96 : decode cX11_holds 96 = .ok (.iconst 1, 1) := o4 hcX11_holds rfl
theorem dX11_holds_97 : decode cX11_holds 97 = .ok (.isub, 1) := o100 hcX11_holds rfl
theorem dX11_holds_98 : decode cX11_holds 98 = .ok (.baload, 1) := o51 hcX11_holds rfl
theorem dX11_holds_99 : decode cX11_holds 99 = .ok (.ifCond .eq 17, 3) := o153 hcX11_holds (a := 17) rfl rfl
theorem dX11_holds_102 : decode cX11_holds 102 = .ok (.aload_n 0, 1) := o42 hcX11_holds rfl
theorem dX11_holds_103 : decode cX11_holds 103 = .ok (.getfield 92, 3) := o180 hcX11_holds rfl
theorem dX11_holds_106 : decode cX11_holds 106 = .ok (.iload 5, 2) := o21 hcX11_holds rfl
theorem dX11_holds_108 : decode cX11_holds 108 = .ok (.baload, 1) := o51 hcX11_holds rfl
theorem dX11_holds_109 : decode cX11_holds 109 = .ok (.ifCond .eq 7, 3) := o153 hcX11_holds (a := 7) rfl rfl
theorem dX11_holds_112 : decode cX11_holds 112 = .ok (.iconst 1, 1) := o4 hcX11_holds rfl
theorem dX11_holds_113 : decode cX11_holds 113 = .ok (.goto 34, 3) := o167 hcX11_holds (a := 34) rfl rfl
theorem dX11_holds_116 : decode cX11_holds 116 = .ok (.iconst 0, 1) := o3 hcX11_holds rfl
theorem dX11_holds_117 : decode cX11_holds 117 = .ok (.goto 30, 3) := o167 hcX11_holds (a := 30) rfl rfl
theorem dX11_holds_120 : decode cX11_holds 120 = .ok (.aload_n 0, 1) := o42 hcX11_holds rfl
theorem dX11_holds_121 : decode cX11_holds 121 = .ok (.getfield 92, 3) := o180 hcX11_holds rfl
theorem dX11_holds_124 : decode cX11_holds 124 = .ok (.iload 5, 2) := o21 hcX11_holds rfl
theorem dX11_holds_126 : decode cX11_holds 126 = .ok (.iconst 1, 1) := o4 hcX11_holds rfl
theorem dX11_holds_127 : decode cX11_holds 127 = .ok (.isub, 1) := o100 hcX11_holds rfl
theorem dX11_holds_128 : decode cX11_holds 128 = .ok (.baload, 1) := o51 hcX11_holds rfl
theorem dX11_holds_129 : decode cX11_holds 129 = .ok (.ifCond .ne 13, 3) := o154 hcX11_holds (a := 13) rfl rfl
theorem dX11_holds_132 : decode cX11_holds 132 = .ok (.aload_n 0, 1) := o42 hcX11_holds rfl
theorem dX11_holds_133 : decode cX11_holds 133 = .ok (.getfield 92, 3) := o180 hcX11_holds rfl
theorem dX11_holds_136 : decode cX11_holds 136 = .ok (.iload 5, 2) := o21 hcX11_holds rfl
theorem dX11_holds_138 : decode cX11_holds 138 = .ok (.baload, 1) := o51 hcX11_holds rfl
theorem dX11_holds_139 : decode cX11_holds 139 = .ok (.ifCond .eq 7, 3) := o153 hcX11_holds (a := 7) rfl rfl
theorem dX11_holds_142 : decode cX11_holds 142 = .ok (.iconst 1, 1) := o4 hcX11_holds rfl
theorem dX11_holds_143 : decode cX11_holds 143 = .ok (.goto 4, 3) := o167 hcX11_holds (a := 4) rfl rfl
theorem dX11_holds_146 : decode cX11_holds 146 = .ok (.iconst 0, 1) := o3 hcX11_holds rfl
theorem dX11_holds_147 : decode cX11_holds 147 = .ok (.bastore, 1) := o84 hcX11_holds rfl
theorem dX11_holds_148 : decode cX11_holds 148 = .ok (.goto 101, 3) := o167 hcX11_holds (a := 101) rfl rfl
theorem dX11_holds_151 : decode cX11_holds 151 = .ok (.aload_n 0, 1) := o42 hcX11_holds rfl
theorem dX11_holds_152 : decode cX11_holds 152 = .ok (.iload 7, 2) := o21 hcX11_holds rfl
theorem dX11_holds_154 : decode cX11_holds 154 = .ok (.sipush 1000, 3) := o17 hcX11_holds (a := 1000) rfl rfl
theorem dX11_holds_157 : decode cX11_holds 157 = .ok (.idiv, 1) := o108 hcX11_holds rfl
theorem dX11_holds_158 : decode cX11_holds 158 = .ok (.iload_n 2, 1) := o28 hcX11_holds rfl
theorem dX11_holds_159 : decode cX11_holds 159 = .ok (.iload_n 3, 1) := o29 hcX11_holds rfl
theorem dX11_holds_160 : decode cX11_holds 160 = .ok (.iload 4, 2) := o21 hcX11_holds rfl
theorem dX11_holds_162 : decode cX11_holds 162 = .ok (.invokevirtual 292, 3) := o182 hcX11_holds rfl
theorem dX11_holds_165 : decode cX11_holds 165 = .ok (.istore 8, 2) := o54 hcX11_holds rfl
theorem dX11_holds_167 : decode cX11_holds 167 = .ok (.iload 7, 2) := o21 hcX11_holds rfl
theorem dX11_holds_169 : decode cX11_holds 169 = .ok (.bipush 100, 2) := o16 hcX11_holds (a := 100) rfl rfl
theorem dX11_holds_171 : decode cX11_holds 171 = .ok (.idiv, 1) := o108 hcX11_holds rfl
theorem dX11_holds_172 : decode cX11_holds 172 = .ok (.bipush 10, 2) := o16 hcX11_holds (a := 10) rfl rfl
theorem dX11_holds_174 : decode cX11_holds 174 = .ok (.irem, 1) := o112 hcX11_holds rfl
theorem dX11_holds_175 : decode cX11_holds 175 = .ok (.istore 9, 2) := o54 hcX11_holds rfl
theorem dX11_holds_177 : decode cX11_holds 177 = .ok (.aload_n 0, 1) := o42 hcX11_holds rfl
theorem dX11_holds_178 : decode cX11_holds 178 = .ok (.getfield 92, 3) := o180 hcX11_holds rfl
theorem dX11_holds_181 : decode cX11_holds 181 = .ok (.iload 5, 2) := o21 hcX11_holds rfl
theorem dX11_holds_183 : decode cX11_holds 183 = .ok (.iload 9, 2) := o21 hcX11_holds rfl
theorem dX11_holds_185 : decode cX11_holds 185 = .ok (.ifCond .ne 21, 3) := o154 hcX11_holds (a := 21) rfl rfl
theorem dX11_holds_188 : decode cX11_holds 188 = .ok (.iload 8, 2) := o21 hcX11_holds rfl
theorem dX11_holds_190 : decode cX11_holds 190 = .ok (.iload 7, 2) := o21 hcX11_holds rfl
theorem dX11_holds_192 : decode cX11_holds 192 = .ok (.bipush 100, 2) := o16 hcX11_holds (a := 100) rfl rfl
theorem dX11_holds_194 : decode cX11_holds 194 = .ok (.irem, 1) := o112 hcX11_holds rfl
theorem dX11_holds_195 : decode cX11_holds 195 = .ok (.if_icmp .ge 7, 3) := o162 hcX11_holds (a := 7) rfl rfl
theorem dX11_holds_198 : decode cX11_holds 198 = .ok (.iconst 1, 1) := o4 hcX11_holds rfl
theorem dX11_holds_199 : decode cX11_holds 199 = .ok (.goto 46, 3) := o167 hcX11_holds (a := 46) rfl rfl
theorem dX11_holds_202 : decode cX11_holds 202 = .ok (.iconst 0, 1) := o3 hcX11_holds rfl
theorem dX11_holds_203 : decode cX11_holds 203 = .ok (.goto 42, 3) := o167 hcX11_holds (a := 42) rfl rfl
theorem dX11_holds_206 : decode cX11_holds 206 = .ok (.iload 9, 2) := o21 hcX11_holds rfl
theorem dX11_holds_208 : decode cX11_holds 208 = .ok (.iconst 1, 1) := o4 hcX11_holds rfl
theorem dX11_holds_209 : decode cX11_holds 209 = .ok (.if_icmp .ne 21, 3) := o160 hcX11_holds (a := 21) rfl rfl
theorem dX11_holds_212 : decode cX11_holds 212 = .ok (.iload 8, 2) := o21 hcX11_holds rfl
theorem dX11_holds_214 : decode cX11_holds 214 = .ok (.iload 7, 2) := o21 hcX11_holds rfl
theorem dX11_holds_216 : decode cX11_holds 216 = .ok (.bipush 100, 2) := o16 hcX11_holds (a := 100) rfl rfl
theorem dX11_holds_218 : decode cX11_holds 218 = .ok (.irem, 1) := o112 hcX11_holds rfl
theorem dX11_holds_219 : decode cX11_holds 219 = .ok (.if_icmp .ne 7, 3) := o160 hcX11_holds (a := 7) rfl rfl
theorem dX11_holds_222 : decode cX11_holds 222 = .ok (.iconst 1, 1) := o4 hcX11_holds rfl
theorem dX11_holds_223 : decode cX11_holds 223 = .ok (.goto 22, 3) := o167 hcX11_holds (a := 22) rfl rfl
theorem dX11_holds_226 : decode cX11_holds 226 = .ok (.iconst 0, 1) := o3 hcX11_holds rfl
theorem dX11_holds_227 : decode cX11_holds 227 = .ok (.goto 18, 3) := o167 hcX11_holds (a := 18) rfl rfl
theorem dX11_holds_230 : decode cX11_holds 230 = .ok (.iload 8, 2) := o21 hcX11_holds rfl
theorem dX11_holds_232 : decode cX11_holds 232 = .ok (.iload 7, 2) := o21 hcX11_holds rfl
theorem dX11_holds_234 : decode cX11_holds 234 = .ok (.bipush 100, 2) := o16 hcX11_holds (a := 100) rfl rfl
theorem dX11_holds_236 : decode cX11_holds 236 = .ok (.irem, 1) := o112 hcX11_holds rfl
theorem dX11_holds_237 : decode cX11_holds 237 = .ok (.if_icmp .le 7, 3) := o164 hcX11_holds (a := 7) rfl rfl
theorem dX11_holds_240 : decode cX11_holds 240 = .ok (.iconst 1, 1) := o4 hcX11_holds rfl
theorem dX11_holds_241 : decode cX11_holds 241 = .ok (.goto 4, 3) := o167 hcX11_holds (a := 4) rfl rfl
theorem dX11_holds_244 : decode cX11_holds 244 = .ok (.iconst 0, 1) := o3 hcX11_holds rfl
theorem dX11_holds_245 : decode cX11_holds 245 = .ok (.bastore, 1) := o84 hcX11_holds rfl
theorem dX11_holds_246 : decode cX11_holds 246 = .ok (.iinc 5 1, 3) := o132 hcX11_holds (b := 1) rfl rfl
theorem dX11_holds_249 : decode cX11_holds 249 = .ok (.iinc 6 1, 3) := o132 hcX11_holds (b := 1) rfl rfl
theorem dX11_holds_252 : decode cX11_holds 252 = .ok (.goto (-241), 3) := o167 hcX11_holds (a := 65295) rfl rfl
theorem dX11_holds_255 : decode cX11_holds 255 = .ok (.aload_n 0, 1) := o42 hcX11_holds rfl
theorem dX11_holds_256 : decode cX11_holds 256 = .ok (.getfield 92, 3) := o180 hcX11_holds rfl
theorem dX11_holds_259 : decode cX11_holds 259 = .ok (.iconst 0, 1) := o3 hcX11_holds rfl
theorem dX11_holds_260 : decode cX11_holds 260 = .ok (.baload, 1) := o51 hcX11_holds rfl
theorem dX11_holds_261 : decode cX11_holds 261 = .ok (.ireturn, 1) := o172 hcX11_holds rfl
theorem dX11_sumOf_0 : decode cX11_sumOf 0 = .ok (.iconst 0, 1) := o3 hcX11_sumOf rfl
theorem dX11_sumOf_1 : decode cX11_sumOf 1 = .ok (.istore 6, 2) := o54 hcX11_sumOf rfl
theorem dX11_sumOf_3 : decode cX11_sumOf 3 = .ok (.iconst 0, 1) := o3 hcX11_sumOf rfl
theorem dX11_sumOf_4 : decode cX11_sumOf 4 = .ok (.istore 7, 2) := o54 hcX11_sumOf rfl
theorem dX11_sumOf_6 : decode cX11_sumOf 6 = .ok (.aload_n 0, 1) := o42 hcX11_sumOf rfl
theorem dX11_sumOf_7 : decode cX11_sumOf 7 = .ok (.invokevirtual 286, 3) := o182 hcX11_sumOf rfl
theorem dX11_sumOf_10 : decode cX11_sumOf 10 = .ok (.istore 8, 2) := o54 hcX11_sumOf rfl
theorem dX11_sumOf_12 : decode cX11_sumOf 12 = .ok (.iload 8, 2) := o21 hcX11_sumOf rfl
theorem dX11_sumOf_14 : decode cX11_sumOf 14 = .ok (.aload_n 0, 1) := o42 hcX11_sumOf rfl
theorem dX11_sumOf_15 : decode cX11_sumOf 15 = .ok (.invokevirtual 289, 3) := o182 hcX11_sumOf rfl
theorem dX11_sumOf_18 : decode cX11_sumOf 18 = .ok (.if_icmp .ge 55, 3) := o162 hcX11_sumOf (a := 55) rfl rfl
theorem dX11_sumOf_21 : decode cX11_sumOf 21 = .ok (.aload_n 0, 1) := o42 hcX11_sumOf rfl
theorem dX11_sumOf_22 : decode cX11_sumOf 22 = .ok (.getfield 62, 3) := o180 hcX11_sumOf rfl
theorem dX11_sumOf_25 : decode cX11_sumOf 25 = .ok (.iload 8, 2) := o21 hcX11_sumOf rfl
theorem dX11_sumOf_27 : decode cX11_sumOf 27 = .ok (.iaload, 1) := o46 hcX11_sumOf rfl
theorem dX11_sumOf_28 : decode cX11_sumOf 28 = .ok (.iload_n 1, 1) := o27 hcX11_sumOf rfl
theorem dX11_sumOf_29 : decode cX11_sumOf 29 = .ok (.if_icmp .eq 6, 3) := o159 hcX11_sumOf (a := 6) rfl rfl
theorem dX11_sumOf_32 : decode cX11_sumOf 32 = .ok (.goto 35, 3) := o167 hcX11_sumOf (a := 35) rfl rfl
theorem dX11_sumOf_35 : decode cX11_sumOf 35 = .ok (.iconst 1, 1) := o4 hcX11_sumOf rfl
theorem dX11_sumOf_36 : decode cX11_sumOf 36 = .ok (.istore 7, 2) := o54 hcX11_sumOf rfl
theorem dX11_sumOf_38 : decode cX11_sumOf 38 = .ok (.iload 6, 2) := o21 hcX11_sumOf rfl
theorem dX11_sumOf_40 : decode cX11_sumOf 40 = .ok (.aload_n 0, 1) := o42 hcX11_sumOf rfl
theorem dX11_sumOf_41 : decode cX11_sumOf 41 = .ok (.iload 8, 2) := o21 hcX11_sumOf rfl
theorem dX11_sumOf_43 : decode cX11_sumOf 43 = .ok (.iload_n 2, 1) := o28 hcX11_sumOf rfl
theorem dX11_sumOf_44 : decode cX11_sumOf 44 = .ok (.iload_n 3, 1) := o29 hcX11_sumOf rfl
theorem dX11_sumOf_45 : decode cX11_sumOf 45 = .ok (.iload 4, 2) := o21 hcX11_sumOf rfl
theorem dX11_sumOf_47 : decode cX11_sumOf 47 = .ok (.invokevirtual 296, 3) := o182 hcX11_sumOf rfl
theorem dX11_sumOf_50 : decode cX11_sumOf 50 = .ok (.ifCond .eq 13, 3) := o153 hcX11_sumOf (a := 13) rfl rfl
theorem dX11_sumOf_53 : decode cX11_sumOf 53 = .ok (.aload_n 0, 1) := o42 hcX11_sumOf rfl
theorem dX11_sumOf_54 : decode cX11_sumOf 54 = .ok (.getfield 65, 3) := o180 hcX11_sumOf rfl
theorem dX11_sumOf_57 : decode cX11_sumOf 57 = .ok (.iload 8, 2) := o21 hcX11_sumOf rfl
theorem dX11_sumOf_59 : decode cX11_sumOf 59 = .ok (.iaload, 1) := o46 hcX11_sumOf rfl
theorem dX11_sumOf_60 : decode cX11_sumOf 60 = .ok (.goto 4, 3) := o167 hcX11_sumOf (a := 4) rfl rfl
theorem dX11_sumOf_63 : decode cX11_sumOf 63 = .ok (.iconst 0, 1) := o3 hcX11_sumOf rfl
theorem dX11_sumOf_64 : decode cX11_sumOf 64 = .ok (.iadd, 1) := o96 hcX11_sumOf rfl
theorem dX11_sumOf_65 : decode cX11_sumOf 65 = .ok (.istore 6, 2) := o54 hcX11_sumOf rfl
theorem dX11_sumOf_67 : decode cX11_sumOf 67 = .ok (.iinc 8 1, 3) := o132 hcX11_sumOf (b := 1) rfl rfl
theorem dX11_sumOf_70 : decode cX11_sumOf 70 = .ok (.goto (-58), 3) := o167 hcX11_sumOf (a := 65478) rfl rfl
theorem dX11_sumOf_73 : decode cX11_sumOf 73 = .ok (.iload 7, 2) := o21 hcX11_sumOf rfl
theorem dX11_sumOf_75 : decode cX11_sumOf 75 = .ok (.ifCond .eq 8, 3) := o153 hcX11_sumOf (a := 8) rfl rfl
theorem dX11_sumOf_78 : decode cX11_sumOf 78 = .ok (.iload 6, 2) := o21 hcX11_sumOf rfl
theorem dX11_sumOf_80 : decode cX11_sumOf 80 = .ok (.goto 5, 3) := o167 hcX11_sumOf (a := 5) rfl rfl
theorem dX11_sumOf_83 : decode cX11_sumOf 83 = .ok (.iload 5, 2) := o21 hcX11_sumOf rfl
theorem dX11_sumOf_85 : decode cX11_sumOf 85 = .ok (.ireturn, 1) := o172 hcX11_sumOf rfl
theorem dX11_slowOf_0 : decode cX11_slowOf 0 = .ok (.aload_n 0, 1) := o42 hcX11_slowOf rfl
theorem dX11_slowOf_1 : decode cX11_slowOf 1 = .ok (.iconst 0, 1) := o3 hcX11_slowOf rfl
theorem dX11_slowOf_2 : decode cX11_slowOf 2 = .ok (.iload_n 1, 1) := o27 hcX11_slowOf rfl
theorem dX11_slowOf_3 : decode cX11_slowOf 3 = .ok (.iload_n 2, 1) := o28 hcX11_slowOf rfl
theorem dX11_slowOf_4 : decode cX11_slowOf 4 = .ok (.iload_n 3, 1) := o29 hcX11_slowOf rfl
theorem dX11_slowOf_5 : decode cX11_slowOf 5 = .ok (.iconst 5, 1) := o8 hcX11_slowOf rfl
theorem dX11_slowOf_6 : decode cX11_slowOf 6 = .ok (.invokevirtual 300, 3) := o182 hcX11_slowOf rfl
theorem dX11_slowOf_9 : decode cX11_slowOf 9 = .ok (.ireturn, 1) := o172 hcX11_slowOf rfl
theorem dX11_farOf_0 : decode cX11_farOf 0 = .ok (.aload_n 0, 1) := o42 hcX11_farOf rfl
theorem dX11_farOf_1 : decode cX11_farOf 1 = .ok (.iconst 1, 1) := o4 hcX11_farOf rfl
theorem dX11_farOf_2 : decode cX11_farOf 2 = .ok (.iload_n 1, 1) := o27 hcX11_farOf rfl
theorem dX11_farOf_3 : decode cX11_farOf 3 = .ok (.iload_n 2, 1) := o28 hcX11_farOf rfl
theorem dX11_farOf_4 : decode cX11_farOf 4 = .ok (.iload_n 3, 1) := o29 hcX11_farOf rfl
theorem dX11_farOf_5 : decode cX11_farOf 5 = .ok (.iconst 3, 1) := o6 hcX11_farOf rfl
theorem dX11_farOf_6 : decode cX11_farOf 6 = .ok (.invokevirtual 300, 3) := o182 hcX11_farOf rfl
theorem dX11_farOf_9 : decode cX11_farOf 9 = .ok (.ireturn, 1) := o172 hcX11_farOf rfl
theorem dX11_of_0 : decode cX11_of 0 = .ok (.aload_n 0, 1) := o42 hcX11_of rfl
theorem dX11_of_1 : decode cX11_of 1 = .ok (.iload_n 1, 1) := o27 hcX11_of rfl
theorem dX11_of_2 : decode cX11_of 2 = .ok (.invokevirtual 232, 3) := o182 hcX11_of rfl
theorem dX11_of_5 : decode cX11_of 5 = .ok (.ifCond .ne 5, 3) := o154 hcX11_of (a := 5) rfl rfl
theorem dX11_of_8 : decode cX11_of 8 = .ok (.iconst (-1), 1) := o2 hcX11_of rfl
theorem dX11_of_9 : decode cX11_of 9 = .ok (.ireturn, 1) := o172 hcX11_of rfl
theorem dX11_of_10 : decode cX11_of 10 = .ok (.aload_n 0, 1) := o42 hcX11_of rfl
theorem dX11_of_11 : decode cX11_of 11 = .ok (.iload_n 2, 1) := o28 hcX11_of rfl
theorem dX11_of_12 : decode cX11_of 12 = .ok (.bipush 10, 2) := o16 hcX11_of (a := 10) rfl rfl
theorem dX11_of_14 : decode cX11_of 14 = .ok (.bipush 9, 2) := o16 hcX11_of (a := 9) rfl rfl
theorem dX11_of_16 : decode cX11_of 16 = .ok (.aload_n 0, 1) := o42 hcX11_of rfl
theorem dX11_of_17 : decode cX11_of 17 = .ok (.getfield 13, 3) := o180 hcX11_of rfl
theorem dX11_of_20 : decode cX11_of 20 = .ok (.iadd, 1) := o96 hcX11_of rfl
theorem dX11_of_21 : decode cX11_of 21 = .ok (.invokevirtual 224, 3) := o182 hcX11_of rfl
theorem dX11_of_24 : decode cX11_of 24 = .ok (.ifCond .eq 22, 3) := o153 hcX11_of (a := 22) rfl rfl
theorem dX11_of_27 : decode cX11_of 27 = .ok (.aload_n 0, 1) := o42 hcX11_of rfl
theorem dX11_of_28 : decode cX11_of 28 = .ok (.iload_n 2, 1) := o28 hcX11_of rfl
theorem dX11_of_29 : decode cX11_of 29 = .ok (.bipush 10, 2) := o16 hcX11_of (a := 10) rfl rfl
theorem dX11_of_31 : decode cX11_of 31 = .ok (.isub, 1) := o100 hcX11_of rfl
theorem dX11_of_32 : decode cX11_of 32 = .ok (.iload_n 1, 1) := o27 hcX11_of rfl
theorem dX11_of_33 : decode cX11_of 33 = .ok (.aload_n 0, 1) := o42 hcX11_of rfl
theorem dX11_of_34 : decode cX11_of 34 = .ok (.getfield 35, 3) := o180 hcX11_of rfl
theorem dX11_of_37 : decode cX11_of 37 = .ok (.iload_n 2, 1) := o28 hcX11_of rfl
theorem dX11_of_38 : decode cX11_of 38 = .ok (.bipush 10, 2) := o16 hcX11_of (a := 10) rfl rfl
theorem dX11_of_40 : decode cX11_of 40 = .ok (.isub, 1) := o100 hcX11_of rfl
theorem dX11_of_41 : decode cX11_of 41 = .ok (.iaload, 1) := o46 hcX11_of rfl
theorem dX11_of_42 : decode cX11_of 42 = .ok (.invokevirtual 304, 3) := o182 hcX11_of rfl
theorem dX11_of_45 : decode cX11_of 45 = .ok (.ireturn, 1) := o172 hcX11_of rfl
theorem dX11_of_46 : decode cX11_of 46 = .ok (.aload_n 0, 1) := o42 hcX11_of rfl
theorem dX11_of_47 : decode cX11_of 47 = .ok (.iload_n 2, 1) := o28 hcX11_of rfl
theorem dX11_of_48 : decode cX11_of 48 = .ok (.bipush 20, 2) := o16 hcX11_of (a := 20) rfl rfl
theorem dX11_of_50 : decode cX11_of 50 = .ok (.bipush 19, 2) := o16 hcX11_of (a := 19) rfl rfl
theorem dX11_of_52 : decode cX11_of 52 = .ok (.aload_n 0, 1) := o42 hcX11_of rfl
theorem dX11_of_53 : decode cX11_of 53 = .ok (.getfield 13, 3) := o180 hcX11_of rfl
theorem dX11_of_56 : decode cX11_of 56 = .ok (.iadd, 1) := o96 hcX11_of rfl
theorem dX11_of_57 : decode cX11_of 57 = .ok (.invokevirtual 224, 3) := o182 hcX11_of rfl
theorem dX11_of_60 : decode cX11_of 60 = .ok (.ifCond .eq 22, 3) := o153 hcX11_of (a := 22) rfl rfl
theorem dX11_of_63 : decode cX11_of 63 = .ok (.aload_n 0, 1) := o42 hcX11_of rfl
theorem dX11_of_64 : decode cX11_of 64 = .ok (.iload_n 2, 1) := o28 hcX11_of rfl
theorem dX11_of_65 : decode cX11_of 65 = .ok (.bipush 20, 2) := o16 hcX11_of (a := 20) rfl rfl
theorem dX11_of_67 : decode cX11_of 67 = .ok (.isub, 1) := o100 hcX11_of rfl
theorem dX11_of_68 : decode cX11_of 68 = .ok (.iload_n 1, 1) := o27 hcX11_of rfl
theorem dX11_of_69 : decode cX11_of 69 = .ok (.aload_n 0, 1) := o42 hcX11_of rfl
theorem dX11_of_70 : decode cX11_of 70 = .ok (.getfield 35, 3) := o180 hcX11_of rfl
theorem dX11_of_73 : decode cX11_of 73 = .ok (.iload_n 2, 1) := o28 hcX11_of rfl
theorem dX11_of_74 : decode cX11_of 74 = .ok (.bipush 20, 2) := o16 hcX11_of (a := 20) rfl rfl
theorem dX11_of_76 : decode cX11_of 76 = .ok (.isub, 1) := o100 hcX11_of rfl
theorem dX11_of_77 : decode cX11_of 77 = .ok (.iaload, 1) := o46 hcX11_of rfl
theorem dX11_of_78 : decode cX11_of 78 = .ok (.invokevirtual 308, 3) := o182 hcX11_of rfl
theorem dX11_of_81 : decode cX11_of 81 = .ok (.ireturn, 1) := o172 hcX11_of rfl
theorem dX11_of_82 : decode cX11_of 82 = .ok (.iload_n 2, 1) := o28 hcX11_of rfl
theorem dX11_of_83 : decode cX11_of 83 = .ok (.tableswitch 57 0 3 #[29, 36, 43, 50], 29) := by decide +kernel
theorem dX11_of_112 : decode cX11_of 112 = .ok (.aload_n 0, 1) := o42 hcX11_of rfl
theorem dX11_of_113 : decode cX11_of 113 = .ok (.getfield 16, 3) := o180 hcX11_of rfl
theorem dX11_of_116 : decode cX11_of 116 = .ok (.iload_n 1, 1) := o27 hcX11_of rfl
theorem dX11_of_117 : decode cX11_of 117 = .ok (.iaload, 1) := o46 hcX11_of rfl
theorem dX11_of_118 : decode cX11_of 118 = .ok (.ireturn, 1) := o172 hcX11_of rfl
theorem dX11_of_119 : decode cX11_of 119 = .ok (.aload_n 0, 1) := o42 hcX11_of rfl
theorem dX11_of_120 : decode cX11_of 120 = .ok (.getfield 20, 3) := o180 hcX11_of rfl
theorem dX11_of_123 : decode cX11_of 123 = .ok (.iload_n 1, 1) := o27 hcX11_of rfl
theorem dX11_of_124 : decode cX11_of 124 = .ok (.iaload, 1) := o46 hcX11_of rfl
theorem dX11_of_125 : decode cX11_of 125 = .ok (.ireturn, 1) := o172 hcX11_of rfl
theorem dX11_of_126 : decode cX11_of 126 = .ok (.aload_n 0, 1) := o42 hcX11_of rfl
theorem dX11_of_127 : decode cX11_of 127 = .ok (.getfield 23, 3) := o180 hcX11_of rfl
theorem dX11_of_130 : decode cX11_of 130 = .ok (.iload_n 1, 1) := o27 hcX11_of rfl
theorem dX11_of_131 : decode cX11_of 131 = .ok (.iaload, 1) := o46 hcX11_of rfl
theorem dX11_of_132 : decode cX11_of 132 = .ok (.ireturn, 1) := o172 hcX11_of rfl
theorem dX11_of_133 : decode cX11_of 133 = .ok (.aload_n 0, 1) := o42 hcX11_of rfl
theorem dX11_of_134 : decode cX11_of 134 = .ok (.getfield 26, 3) := o180 hcX11_of rfl
theorem dX11_of_137 : decode cX11_of 137 = .ok (.iload_n 1, 1) := o27 hcX11_of rfl
theorem dX11_of_138 : decode cX11_of 138 = .ok (.iaload, 1) := o46 hcX11_of rfl
theorem dX11_of_139 : decode cX11_of 139 = .ok (.ireturn, 1) := o172 hcX11_of rfl
theorem dX11_of_140 : decode cX11_of 140 = .ok (.iconst (-1), 1) := o2 hcX11_of rfl
theorem dX11_of_141 : decode cX11_of 141 = .ok (.ireturn, 1) := o172 hcX11_of rfl
theorem dX11_beginNight_0 : decode cX11_beginNight 0 = .ok (.aload_n 0, 1) := o42 hcX11_beginNight rfl
theorem dX11_beginNight_1 : decode cX11_beginNight 1 = .ok (.iload_n 1, 1) := o27 hcX11_beginNight rfl
theorem dX11_beginNight_2 : decode cX11_beginNight 2 = .ok (.putfield 96, 3) := o181 hcX11_beginNight rfl
theorem dX11_beginNight_5 : decode cX11_beginNight 5 = .ok (.aload_n 0, 1) := o42 hcX11_beginNight rfl
theorem dX11_beginNight_6 : decode cX11_beginNight 6 = .ok (.iload_n 2, 1) := o28 hcX11_beginNight rfl
theorem dX11_beginNight_7 : decode cX11_beginNight 7 = .ok (.putfield 99, 3) := o181 hcX11_beginNight rfl
theorem dX11_beginNight_10 : decode cX11_beginNight 10 = .ok (.aload_n 0, 1) := o42 hcX11_beginNight rfl
theorem dX11_beginNight_11 : decode cX11_beginNight 11 = .ok (.aload_n 0, 1) := o42 hcX11_beginNight rfl
theorem dX11_beginNight_12 : decode cX11_beginNight 12 = .ok (.getfield 32, 3) := o180 hcX11_beginNight rfl
theorem dX11_beginNight_15 : decode cX11_beginNight 15 = .ok (.iload_n 1, 1) := o27 hcX11_beginNight rfl
theorem dX11_beginNight_16 : decode cX11_beginNight 16 = .ok (.iaload, 1) := o46 hcX11_beginNight rfl
theorem dX11_beginNight_17 : decode cX11_beginNight 17 = .ok (.putfield 102, 3) := o181 hcX11_beginNight rfl
theorem dX11_beginNight_20 : decode cX11_beginNight 20 = .ok (.aload_n 0, 1) := o42 hcX11_beginNight rfl
theorem dX11_beginNight_21 : decode cX11_beginNight 21 = .ok (.aload_n 0, 1) := o42 hcX11_beginNight rfl
theorem dX11_beginNight_22 : decode cX11_beginNight 22 = .ok (.getfield 35, 3) := o180 hcX11_beginNight rfl
theorem dX11_beginNight_25 : decode cX11_beginNight 25 = .ok (.iload_n 1, 1) := o27 hcX11_beginNight rfl
theorem dX11_beginNight_26 : decode cX11_beginNight 26 = .ok (.iaload, 1) := o46 hcX11_beginNight rfl
theorem dX11_beginNight_27 : decode cX11_beginNight 27 = .ok (.putfield 105, 3) := o181 hcX11_beginNight rfl
theorem dX11_beginNight_30 : decode cX11_beginNight 30 = .ok (.aload_n 0, 1) := o42 hcX11_beginNight rfl
theorem dX11_beginNight_31 : decode cX11_beginNight 31 = .ok (.iconst 0, 1) := o3 hcX11_beginNight rfl
theorem dX11_beginNight_32 : decode cX11_beginNight 32 = .ok (.putfield 108, 3) := o181 hcX11_beginNight rfl
theorem dX11_beginNight_35 : decode cX11_beginNight 35 = .ok (.aload_n 0, 1) := o42 hcX11_beginNight rfl
theorem dX11_beginNight_36 : decode cX11_beginNight 36 = .ok (.iconst 0, 1) := o3 hcX11_beginNight rfl
theorem dX11_beginNight_37 : decode cX11_beginNight 37 = .ok (.putfield 111, 3) := o181 hcX11_beginNight rfl
theorem dX11_beginNight_40 : decode cX11_beginNight 40 = .ok (.return_, 1) := o177 hcX11_beginNight rfl
theorem dX11_isProudly_0 : decode cX11_isProudly 0 = .ok (.aload_n 0, 1) := o42 hcX11_isProudly rfl
theorem dX11_isProudly_1 : decode cX11_isProudly 1 = .ok (.aload_n 0, 1) := o42 hcX11_isProudly rfl
theorem dX11_isProudly_2 : decode cX11_isProudly 2 = .ok (.getfield 111, 3) := o180 hcX11_isProudly rfl
theorem dX11_isProudly_5 : decode cX11_isProudly 5 = .ok (.iconst 1, 1) := o4 hcX11_isProudly rfl
theorem dX11_isProudly_6 : decode cX11_isProudly 6 = .ok (.iload_n 1, 1) := o27 hcX11_isProudly rfl
theorem dX11_isProudly_7 : decode cX11_isProudly 7 = .ok (.ishl, 1) := o120 hcX11_isProudly rfl
theorem dX11_isProudly_8 : decode cX11_isProudly 8 = .ok (.iconst (-1), 1) := o2 hcX11_isProudly rfl
theorem dX11_isProudly_9 : decode cX11_isProudly 9 = .ok (.ixor, 1) := o130 hcX11_isProudly rfl
theorem dX11_isProudly_10 : decode cX11_isProudly 10 = .ok (.iand, 1) := o126 hcX11_isProudly rfl
theorem dX11_isProudly_11 : decode cX11_isProudly 11 = .ok (.invokevirtual 311, 3) := o182 hcX11_isProudly rfl
theorem dX11_isProudly_14 : decode cX11_isProudly 14 = .ok (.aload_n 0, 1) := o42 hcX11_isProudly rfl
theorem dX11_isProudly_15 : decode cX11_isProudly 15 = .ok (.getfield 20, 3) := o180 hcX11_isProudly rfl
theorem dX11_isProudly_18 : decode cX11_isProudly 18 = .ok (.iload_n 1, 1) := o27 hcX11_isProudly rfl
theorem dX11_isProudly_19 : decode cX11_isProudly 19 = .ok (.iaload, 1) := o46 hcX11_isProudly rfl
theorem dX11_isProudly_20 : decode cX11_isProudly 20 = .ok (.iconst 3, 1) := o6 hcX11_isProudly rfl
theorem dX11_isProudly_21 : decode cX11_isProudly 21 = .ok (.irem, 1) := o112 hcX11_isProudly rfl
theorem dX11_isProudly_22 : decode cX11_isProudly 22 = .ok (.if_icmp .lt 7, 3) := o161 hcX11_isProudly (a := 7) rfl rfl
theorem dX11_isProudly_25 : decode cX11_isProudly 25 = .ok (.iconst 1, 1) := o4 hcX11_isProudly rfl
theorem dX11_isProudly_26 : decode cX11_isProudly 26 = .ok (.goto 4, 3) := o167 hcX11_isProudly (a := 4) rfl rfl
theorem dX11_isProudly_29 : decode cX11_isProudly 29 = .ok (.iconst 0, 1) := o3 hcX11_isProudly rfl
theorem dX11_isProudly_30 : decode cX11_isProudly 30 = .ok (.ireturn, 1) := o172 hcX11_isProudly rfl
theorem dX11_letsIn_0 : decode cX11_letsIn 0 = .ok (.aload_n 0, 1) := o42 hcX11_letsIn rfl
theorem dX11_letsIn_1 : decode cX11_letsIn 1 = .ok (.aload_n 0, 1) := o42 hcX11_letsIn rfl
theorem dX11_letsIn_2 : decode cX11_letsIn 2 = .ok (.getfield 26, 3) := o180 hcX11_letsIn rfl
theorem dX11_letsIn_5 : decode cX11_letsIn 5 = .ok (.iload_n 1, 1) := o27 hcX11_letsIn rfl
theorem dX11_letsIn_6 : decode cX11_letsIn 6 = .ok (.iaload, 1) := o46 hcX11_letsIn rfl
theorem dX11_letsIn_7 : decode cX11_letsIn 7 = .ok (.aload_n 0, 1) := o42 hcX11_letsIn rfl
theorem dX11_letsIn_8 : decode cX11_letsIn 8 = .ok (.getfield 96, 3) := o180 hcX11_letsIn rfl
theorem dX11_letsIn_11 : decode cX11_letsIn 11 = .ok (.invokevirtual 314, 3) := o182 hcX11_letsIn rfl
theorem dX11_letsIn_14 : decode cX11_letsIn 14 = .ok (.ifCond .eq 5, 3) := o153 hcX11_letsIn (a := 5) rfl rfl
theorem dX11_letsIn_17 : decode cX11_letsIn 17 = .ok (.iconst 1, 1) := o4 hcX11_letsIn rfl
theorem dX11_letsIn_18 : decode cX11_letsIn 18 = .ok (.ireturn, 1) := o172 hcX11_letsIn rfl
theorem dX11_letsIn_19 : decode cX11_letsIn 19 = .ok (.aload_n 0, 1) := o42 hcX11_letsIn rfl
theorem dX11_letsIn_20 : decode cX11_letsIn 20 = .ok (.getfield 16, 3) := o180 hcX11_letsIn rfl
theorem dX11_letsIn_23 : decode cX11_letsIn 23 = .ok (.iload_n 1, 1) := o27 hcX11_letsIn rfl
theorem dX11_letsIn_24 : decode cX11_letsIn 24 = .ok (.iaload, 1) := o46 hcX11_letsIn rfl
theorem dX11_letsIn_25 : decode cX11_letsIn 25 = .ok (.tableswitch 158 1 6 #[39, 60, 66, 72, 104, 125], 39) := by decide +kernel
theorem dX11_letsIn_64 : decode cX11_letsIn 64 = .ok (.aload_n 0, 1) := o42 hcX11_letsIn rfl
theorem dX11_letsIn_65 : decode cX11_letsIn 65 = .ok (.getfield 99, 3) := o180 hcX11_letsIn rfl
theorem dX11_letsIn_68 : decode cX11_letsIn 68 = .ok (.iconst 5, 1) := o8 hcX11_letsIn rfl
theorem dX11_letsIn_69 : decode cX11_letsIn 69 = .ok (.aload_n 0, 1) := o42 hcX11_letsIn rfl
theorem dX11_letsIn_70 : decode cX11_letsIn 70 = .ok (.getfield 20, 3) := o180 hcX11_letsIn rfl
theorem dX11_letsIn_73 : decode cX11_letsIn 73 = .ok (.iload_n 1, 1) := o27 hcX11_letsIn rfl
theorem dX11_letsIn_74 : decode cX11_letsIn 74 = .ok (.iaload, 1) := o46 hcX11_letsIn rfl
theorem dX11_letsIn_75 : decode cX11_letsIn 75 = .ok (.imul, 1) := o104 hcX11_letsIn rfl
theorem dX11_letsIn_76 : decode cX11_letsIn 76 = .ok (.if_icmp .lt 7, 3) := o161 hcX11_letsIn (a := 7) rfl rfl
theorem dX11_letsIn_79 : decode cX11_letsIn 79 = .ok (.iconst 1, 1) := o4 hcX11_letsIn rfl
theorem dX11_letsIn_80 : decode cX11_letsIn 80 = .ok (.goto 4, 3) := o167 hcX11_letsIn (a := 4) rfl rfl
theorem dX11_letsIn_83 : decode cX11_letsIn 83 = .ok (.iconst 0, 1) := o3 hcX11_letsIn rfl
theorem dX11_letsIn_84 : decode cX11_letsIn 84 = .ok (.ireturn, 1) := o172 hcX11_letsIn rfl
theorem dX11_letsIn_85 : decode cX11_letsIn 85 = .ok (.aload_n 0, 1) := o42 hcX11_letsIn rfl
theorem dX11_letsIn_86 : decode cX11_letsIn 86 = .ok (.iload_n 1, 1) := o27 hcX11_letsIn rfl
theorem dX11_letsIn_87 : decode cX11_letsIn 87 = .ok (.invokevirtual 317, 3) := o182 hcX11_letsIn rfl
theorem dX11_letsIn_90 : decode cX11_letsIn 90 = .ok (.ireturn, 1) := o172 hcX11_letsIn rfl
theorem dX11_letsIn_91 : decode cX11_letsIn 91 = .ok (.aload_n 0, 1) := o42 hcX11_letsIn rfl
theorem dX11_letsIn_92 : decode cX11_letsIn 92 = .ok (.iload_n 1, 1) := o27 hcX11_letsIn rfl
theorem dX11_letsIn_93 : decode cX11_letsIn 93 = .ok (.invokevirtual 320, 3) := o182 hcX11_letsIn rfl
theorem dX11_letsIn_96 : decode cX11_letsIn 96 = .ok (.ireturn, 1) := o172 hcX11_letsIn rfl
theorem dX11_letsIn_97 : decode cX11_letsIn 97 = .ok (.aload_n 0, 1) := o42 hcX11_letsIn rfl
theorem dX11_letsIn_98 : decode cX11_letsIn 98 = .ok (.getfield 20, 3) := o180 hcX11_letsIn rfl
theorem dX11_letsIn_101 : decode cX11_letsIn 101 = .ok (.iload_n 1, 1) := o27 hcX11_letsIn rfl
theorem dX11_letsIn_102 : decode cX11_letsIn 102 = .ok (.iaload, 1) := o46 hcX11_letsIn rfl
theorem dX11_letsIn_103 : decode cX11_letsIn 103 = .ok (.bipush 7, 2) := o16 hcX11_letsIn (a := 7) rfl rfl
theorem dX11_letsIn_105 : decode cX11_letsIn 105 = .ok (.if_icmp .gt 18, 3) := o163 hcX11_letsIn (a := 18) rfl rfl
theorem dX11_letsIn_108 : decode cX11_letsIn 108 = .ok (.aload_n 0, 1) := o42 hcX11_letsIn rfl
theorem dX11_letsIn_109 : decode cX11_letsIn 109 = .ok (.getfield 99, 3) := o180 hcX11_letsIn rfl
theorem dX11_letsIn_112 : decode cX11_letsIn 112 = .ok (.iconst 5, 1) := o8 hcX11_letsIn rfl
theorem dX11_letsIn_113 : decode cX11_letsIn 113 = .ok (.aload_n 0, 1) := o42 hcX11_letsIn rfl
theorem dX11_letsIn_114 : decode cX11_letsIn 114 = .ok (.getfield 20, 3) := o180 hcX11_letsIn rfl
theorem dX11_letsIn_117 : decode cX11_letsIn 117 = .ok (.iload_n 1, 1) := o27 hcX11_letsIn rfl
theorem dX11_letsIn_118 : decode cX11_letsIn 118 = .ok (.iaload, 1) := o46 hcX11_letsIn rfl
theorem dX11_letsIn_119 : decode cX11_letsIn 119 = .ok (.imul, 1) := o104 hcX11_letsIn rfl
theorem dX11_letsIn_120 : decode cX11_letsIn 120 = .ok (.if_icmp .lt 7, 3) := o161 hcX11_letsIn (a := 7) rfl rfl
theorem dX11_letsIn_123 : decode cX11_letsIn 123 = .ok (.iconst 1, 1) := o4 hcX11_letsIn rfl
theorem dX11_letsIn_124 : decode cX11_letsIn 124 = .ok (.goto 4, 3) := o167 hcX11_letsIn (a := 4) rfl rfl
theorem dX11_letsIn_127 : decode cX11_letsIn 127 = .ok (.iconst 0, 1) := o3 hcX11_letsIn rfl
theorem dX11_letsIn_128 : decode cX11_letsIn 128 = .ok (.ireturn, 1) := o172 hcX11_letsIn rfl
theorem dX11_letsIn_129 : decode cX11_letsIn 129 = .ok (.aload_n 0, 1) := o42 hcX11_letsIn rfl
theorem dX11_letsIn_130 : decode cX11_letsIn 130 = .ok (.getfield 105, 3) := o180 hcX11_letsIn rfl
theorem dX11_letsIn_133 : decode cX11_letsIn 133 = .ok (.ifCond .le 15, 3) := o158 hcX11_letsIn (a := 15) rfl rfl
theorem dX11_letsIn_136 : decode cX11_letsIn 136 = .ok (.aload_n 0, 1) := o42 hcX11_letsIn rfl
theorem dX11_letsIn_137 : decode cX11_letsIn 137 = .ok (.iload_n 1, 1) := o27 hcX11_letsIn rfl
theorem dX11_letsIn_138 : decode cX11_letsIn 138 = .ok (.invokevirtual 317, 3) := o182 hcX11_letsIn rfl
theorem dX11_letsIn_141 : decode cX11_letsIn 141 = .ok (.ifCond .eq 7, 3) := o153 hcX11_letsIn (a := 7) rfl rfl
theorem dX11_letsIn_144 : decode cX11_letsIn 144 = .ok (.iconst 1, 1) := o4 hcX11_letsIn rfl
theorem dX11_letsIn_145 : decode cX11_letsIn 145 = .ok (.goto 4, 3) := o167 hcX11_letsIn (a := 4) rfl rfl
theorem dX11_letsIn_148 : decode cX11_letsIn 148 = .ok (.iconst 0, 1) := o3 hcX11_letsIn rfl
theorem dX11_letsIn_149 : decode cX11_letsIn 149 = .ok (.ireturn, 1) := o172 hcX11_letsIn rfl
theorem dX11_letsIn_150 : decode cX11_letsIn 150 = .ok (.aload_n 0, 1) := o42 hcX11_letsIn rfl
theorem dX11_letsIn_151 : decode cX11_letsIn 151 = .ok (.getfield 29, 3) := o180 hcX11_letsIn rfl
theorem dX11_letsIn_154 : decode cX11_letsIn 154 = .ok (.iconst 4, 1) := o7 hcX11_letsIn rfl
theorem dX11_letsIn_155 : decode cX11_letsIn 155 = .ok (.iload_n 1, 1) := o27 hcX11_letsIn rfl
theorem dX11_letsIn_156 : decode cX11_letsIn 156 = .ok (.imul, 1) := o104 hcX11_letsIn rfl
theorem dX11_letsIn_157 : decode cX11_letsIn 157 = .ok (.aload_n 0, 1) := o42 hcX11_letsIn rfl
theorem dX11_letsIn_158 : decode cX11_letsIn 158 = .ok (.getfield 99, 3) := o180 hcX11_letsIn rfl
theorem dX11_letsIn_161 : decode cX11_letsIn 161 = .ok (.iconst 4, 1) := o7 hcX11_letsIn rfl
theorem dX11_letsIn_162 : decode cX11_letsIn 162 = .ok (.irem, 1) := o112 hcX11_letsIn rfl
theorem dX11_letsIn_163 : decode cX11_letsIn 163 = .ok (.iadd, 1) := o96 hcX11_letsIn rfl
theorem dX11_letsIn_164 : decode cX11_letsIn 164 = .ok (.iaload, 1) := o46 hcX11_letsIn rfl
theorem dX11_letsIn_165 : decode cX11_letsIn 165 = .ok (.iconst 1, 1) := o4 hcX11_letsIn rfl
theorem dX11_letsIn_166 : decode cX11_letsIn 166 = .ok (.if_icmp .ne 15, 3) := o160 hcX11_letsIn (a := 15) rfl rfl
theorem dX11_letsIn_169 : decode cX11_letsIn 169 = .ok (.aload_n 0, 1) := o42 hcX11_letsIn rfl
theorem dX11_letsIn_170 : decode cX11_letsIn 170 = .ok (.iload_n 1, 1) := o27 hcX11_letsIn rfl
theorem dX11_letsIn_171 : decode cX11_letsIn 171 = .ok (.invokevirtual 320, 3) := o182 hcX11_letsIn rfl
theorem dX11_letsIn_174 : decode cX11_letsIn 174 = .ok (.ifCond .eq 7, 3) := o153 hcX11_letsIn (a := 7) rfl rfl
theorem dX11_letsIn_177 : decode cX11_letsIn 177 = .ok (.iconst 1, 1) := o4 hcX11_letsIn rfl
theorem dX11_letsIn_178 : decode cX11_letsIn 178 = .ok (.goto 4, 3) := o167 hcX11_letsIn (a := 4) rfl rfl
theorem dX11_letsIn_181 : decode cX11_letsIn 181 = .ok (.iconst 0, 1) := o3 hcX11_letsIn rfl
theorem dX11_letsIn_182 : decode cX11_letsIn 182 = .ok (.ireturn, 1) := o172 hcX11_letsIn rfl
theorem dX11_letsIn_183 : decode cX11_letsIn 183 = .ok (.iconst 0, 1) := o3 hcX11_letsIn rfl
theorem dX11_letsIn_184 : decode cX11_letsIn 184 = .ok (.ireturn, 1) := o172 hcX11_letsIn rfl
theorem dX11_pays_0 : decode cX11_pays 0 = .ok (.aload_n 0, 1) := o42 hcX11_pays rfl
theorem dX11_pays_1 : decode cX11_pays 1 = .ok (.getfield 105, 3) := o180 hcX11_pays rfl
theorem dX11_pays_4 : decode cX11_pays 4 = .ok (.aload_n 0, 1) := o42 hcX11_pays rfl
theorem dX11_pays_5 : decode cX11_pays 5 = .ok (.getfield 20, 3) := o180 hcX11_pays rfl
theorem dX11_pays_8 : decode cX11_pays 8 = .ok (.iload_n 1, 1) := o27 hcX11_pays rfl
theorem dX11_pays_9 : decode cX11_pays 9 = .ok (.iaload, 1) := o46 hcX11_pays rfl
theorem dX11_pays_10 : decode cX11_pays 10 = .ok (.if_icmp .ge 5, 3) := o162 hcX11_pays (a := 5) rfl rfl
theorem dX11_pays_13 : decode cX11_pays 13 = .ok (.iconst 0, 1) := o3 hcX11_pays rfl
theorem dX11_pays_14 : decode cX11_pays 14 = .ok (.ireturn, 1) := o172 hcX11_pays rfl
theorem dX11_pays_15 : decode cX11_pays 15 = .ok (.aload_n 0, 1) := o42 hcX11_pays rfl
theorem dX11_pays_16 : decode cX11_pays 16 = .ok (.dup, 1) := o89 hcX11_pays rfl
theorem dX11_pays_17 : decode cX11_pays 17 = .ok (.getfield 105, 3) := o180 hcX11_pays rfl
theorem dX11_pays_20 : decode cX11_pays 20 = .ok (.aload_n 0, 1) := o42 hcX11_pays rfl
theorem dX11_pays_21 : decode cX11_pays 21 = .ok (.getfield 20, 3) := o180 hcX11_pays rfl
theorem dX11_pays_24 : decode cX11_pays 24 = .ok (.iload_n 1, 1) := o27 hcX11_pays rfl
theorem dX11_pays_25 : decode cX11_pays 25 = .ok (.iaload, 1) := o46 hcX11_pays rfl
theorem dX11_pays_26 : decode cX11_pays 26 = .ok (.isub, 1) := o100 hcX11_pays rfl
theorem dX11_pays_27 : decode cX11_pays 27 = .ok (.putfield 105, 3) := o181 hcX11_pays rfl
theorem dX11_pays_30 : decode cX11_pays 30 = .ok (.iconst 1, 1) := o4 hcX11_pays rfl
theorem dX11_pays_31 : decode cX11_pays 31 = .ok (.ireturn, 1) := o172 hcX11_pays rfl
theorem dX11_apart_0 : decode cX11_apart 0 = .ok (.iload_n 1, 1) := o27 hcX11_apart rfl
theorem dX11_apart_1 : decode cX11_apart 1 = .ok (.iload_n 2, 1) := o28 hcX11_apart rfl
theorem dX11_apart_2 : decode cX11_apart 2 = .ok (.if_icmp .ge 9, 3) := o162 hcX11_apart (a := 9) rfl rfl
theorem dX11_apart_5 : decode cX11_apart 5 = .ok (.iload_n 2, 1) := o28 hcX11_apart rfl
theorem dX11_apart_6 : decode cX11_apart 6 = .ok (.iload_n 1, 1) := o27 hcX11_apart rfl
theorem dX11_apart_7 : decode cX11_apart 7 = .ok (.isub, 1) := o100 hcX11_apart rfl
theorem dX11_apart_8 : decode cX11_apart 8 = .ok (.goto 6, 3) := o167 hcX11_apart (a := 6) rfl rfl
theorem dX11_apart_11 : decode cX11_apart 11 = .ok (.iload_n 1, 1) := o27 hcX11_apart rfl
theorem dX11_apart_12 : decode cX11_apart 12 = .ok (.iload_n 2, 1) := o28 hcX11_apart rfl
theorem dX11_apart_13 : decode cX11_apart 13 = .ok (.isub, 1) := o100 hcX11_apart rfl
theorem dX11_apart_14 : decode cX11_apart 14 = .ok (.ireturn, 1) := o172 hcX11_apart rfl
theorem dX11_upBy_0 : decode cX11_upBy 0 = .ok (.iload_n 1, 1) := o27 hcX11_upBy rfl
theorem dX11_upBy_1 : decode cX11_upBy 1 = .ok (.iload_n 2, 1) := o28 hcX11_upBy rfl
theorem dX11_upBy_2 : decode cX11_upBy 2 = .ok (.iadd, 1) := o96 hcX11_upBy rfl
theorem dX11_upBy_3 : decode cX11_upBy 3 = .ok (.iconst 1, 1) := o4 hcX11_upBy rfl
theorem dX11_upBy_4 : decode cX11_upBy 4 = .ok (.isub, 1) := o100 hcX11_upBy rfl
theorem dX11_upBy_5 : decode cX11_upBy 5 = .ok (.iload_n 2, 1) := o28 hcX11_upBy rfl
theorem dX11_upBy_6 : decode cX11_upBy 6 = .ok (.idiv, 1) := o108 hcX11_upBy rfl
theorem dX11_upBy_7 : decode cX11_upBy 7 = .ok (.ireturn, 1) := o172 hcX11_upBy rfl
theorem dX11_visits_0 : decode cX11_visits 0 = .ok (.aload_n 0, 1) := o42 hcX11_visits rfl
theorem dX11_visits_1 : decode cX11_visits 1 = .ok (.aload_n 0, 1) := o42 hcX11_visits rfl
theorem dX11_visits_2 : decode cX11_visits 2 = .ok (.getfield 96, 3) := o180 hcX11_visits rfl
theorem dX11_visits_5 : decode cX11_visits 5 = .ok (.iload_n 1, 1) := o27 hcX11_visits rfl
theorem dX11_visits_6 : decode cX11_visits 6 = .ok (.aload_n 0, 1) := o42 hcX11_visits rfl
theorem dX11_visits_7 : decode cX11_visits 7 = .ok (.getfield 35, 3) := o180 hcX11_visits rfl
theorem dX11_visits_10 : decode cX11_visits 10 = .ok (.aload_n 0, 1) := o42 hcX11_visits rfl
theorem dX11_visits_11 : decode cX11_visits 11 = .ok (.getfield 96, 3) := o180 hcX11_visits rfl
theorem dX11_visits_14 : decode cX11_visits 14 = .ok (.iaload, 1) := o46 hcX11_visits rfl
theorem dX11_visits_15 : decode cX11_visits 15 = .ok (.invokevirtual 304, 3) := o182 hcX11_visits rfl
theorem dX11_visits_18 : decode cX11_visits 18 = .ok (.istore_n 2, 1) := o61 hcX11_visits rfl
theorem dX11_visits_19 : decode cX11_visits 19 = .ok (.aload_n 0, 1) := o42 hcX11_visits rfl
theorem dX11_visits_20 : decode cX11_visits 20 = .ok (.dup, 1) := o89 hcX11_visits rfl
theorem dX11_visits_21 : decode cX11_visits 21 = .ok (.getfield 99, 3) := o180 hcX11_visits rfl
theorem dX11_visits_24 : decode cX11_visits 24 = .ok (.aload_n 0, 1) := o42 hcX11_visits rfl
theorem dX11_visits_25 : decode cX11_visits 25 = .ok (.aload_n 0, 1) := o42 hcX11_visits rfl
theorem dX11_visits_26 : decode cX11_visits 26 = .ok (.getfield 96, 3) := o180 hcX11_visits rfl
theorem dX11_visits_29 : decode cX11_visits 29 = .ok (.iload_n 1, 1) := o27 hcX11_visits rfl
theorem dX11_visits_30 : decode cX11_visits 30 = .ok (.aload_n 0, 1) := o42 hcX11_visits rfl
theorem dX11_visits_31 : decode cX11_visits 31 = .ok (.getfield 35, 3) := o180 hcX11_visits rfl
theorem dX11_visits_34 : decode cX11_visits 34 = .ok (.aload_n 0, 1) := o42 hcX11_visits rfl
theorem dX11_visits_35 : decode cX11_visits 35 = .ok (.getfield 96, 3) := o180 hcX11_visits rfl
theorem dX11_visits_38 : decode cX11_visits 38 = .ok (.iaload, 1) := o46 hcX11_visits rfl
theorem dX11_visits_39 : decode cX11_visits 39 = .ok (.invokevirtual 308, 3) := o182 hcX11_visits rfl
theorem dX11_visits_42 : decode cX11_visits 42 = .ok (.aload_n 0, 1) := o42 hcX11_visits rfl
theorem dX11_visits_43 : decode cX11_visits 43 = .ok (.iload_n 1, 1) := o27 hcX11_visits rfl
theorem dX11_visits_44 : decode cX11_visits 44 = .ok (.aload_n 0, 1) := o42 hcX11_visits rfl
theorem dX11_visits_45 : decode cX11_visits 45 = .ok (.getfield 102, 3) := o180 hcX11_visits rfl
theorem dX11_visits_48 : decode cX11_visits 48 = .ok (.invokevirtual 323, 3) := o182 hcX11_visits rfl
theorem dX11_visits_51 : decode cX11_visits 51 = .ok (.imul, 1) := o104 hcX11_visits rfl
theorem dX11_visits_52 : decode cX11_visits 52 = .ok (.iadd, 1) := o96 hcX11_visits rfl
theorem dX11_visits_53 : decode cX11_visits 53 = .ok (.putfield 99, 3) := o181 hcX11_visits rfl
theorem dX11_visits_56 : decode cX11_visits 56 = .ok (.aload_n 0, 1) := o42 hcX11_visits rfl
theorem dX11_visits_57 : decode cX11_visits 57 = .ok (.aload_n 0, 1) := o42 hcX11_visits rfl
theorem dX11_visits_58 : decode cX11_visits 58 = .ok (.getfield 108, 3) := o180 hcX11_visits rfl
theorem dX11_visits_61 : decode cX11_visits 61 = .ok (.iload_n 1, 1) := o27 hcX11_visits rfl
theorem dX11_visits_62 : decode cX11_visits 62 = .ok (.invokevirtual 314, 3) := o182 hcX11_visits rfl
theorem dX11_visits_65 : decode cX11_visits 65 = .ok (.ifCond .ne 33, 3) := o154 hcX11_visits (a := 33) rfl rfl
theorem dX11_visits_68 : decode cX11_visits 68 = .ok (.aload_n 0, 1) := o42 hcX11_visits rfl
theorem dX11_visits_69 : decode cX11_visits 69 = .ok (.dup, 1) := o89 hcX11_visits rfl
theorem dX11_visits_70 : decode cX11_visits 70 = .ok (.getfield 99, 3) := o180 hcX11_visits rfl
theorem dX11_visits_73 : decode cX11_visits 73 = .ok (.aload_n 0, 1) := o42 hcX11_visits rfl
theorem dX11_visits_74 : decode cX11_visits 74 = .ok (.iload_n 2, 1) := o28 hcX11_visits rfl
theorem dX11_visits_75 : decode cX11_visits 75 = .ok (.aload_n 0, 1) := o42 hcX11_visits rfl
theorem dX11_visits_76 : decode cX11_visits 76 = .ok (.getfield 23, 3) := o180 hcX11_visits rfl
theorem dX11_visits_79 : decode cX11_visits 79 = .ok (.iload_n 1, 1) := o27 hcX11_visits rfl
theorem dX11_visits_80 : decode cX11_visits 80 = .ok (.iaload, 1) := o46 hcX11_visits rfl
theorem dX11_visits_81 : decode cX11_visits 81 = .ok (.imul, 1) := o104 hcX11_visits rfl
theorem dX11_visits_82 : decode cX11_visits 82 = .ok (.aload_n 0, 1) := o42 hcX11_visits rfl
theorem dX11_visits_83 : decode cX11_visits 83 = .ok (.getfield 38, 3) := o180 hcX11_visits rfl
theorem dX11_visits_86 : decode cX11_visits 86 = .ok (.aload_n 0, 1) := o42 hcX11_visits rfl
theorem dX11_visits_87 : decode cX11_visits 87 = .ok (.getfield 96, 3) := o180 hcX11_visits rfl
theorem dX11_visits_90 : decode cX11_visits 90 = .ok (.iaload, 1) := o46 hcX11_visits rfl
theorem dX11_visits_91 : decode cX11_visits 91 = .ok (.invokevirtual 327, 3) := o182 hcX11_visits rfl
theorem dX11_visits_94 : decode cX11_visits 94 = .ok (.iadd, 1) := o96 hcX11_visits rfl
theorem dX11_visits_95 : decode cX11_visits 95 = .ok (.putfield 99, 3) := o181 hcX11_visits rfl
theorem dX11_visits_98 : decode cX11_visits 98 = .ok (.aload_n 0, 1) := o42 hcX11_visits rfl
theorem dX11_visits_99 : decode cX11_visits 99 = .ok (.iload_n 1, 1) := o27 hcX11_visits rfl
theorem dX11_visits_100 : decode cX11_visits 100 = .ok (.putfield 102, 3) := o181 hcX11_visits rfl
theorem dX11_visits_103 : decode cX11_visits 103 = .ok (.aload_n 0, 1) := o42 hcX11_visits rfl
theorem dX11_visits_104 : decode cX11_visits 104 = .ok (.dup, 1) := o89 hcX11_visits rfl
theorem dX11_visits_105 : decode cX11_visits 105 = .ok (.getfield 108, 3) := o180 hcX11_visits rfl
theorem dX11_visits_108 : decode cX11_visits 108 = .ok (.iconst 1, 1) := o4 hcX11_visits rfl
theorem dX11_visits_109 : decode cX11_visits 109 = .ok (.iload_n 1, 1) := o27 hcX11_visits rfl
theorem dX11_visits_110 : decode cX11_visits 110 = .ok (.ishl, 1) := o120 hcX11_visits rfl
theorem dX11_visits_111 : decode cX11_visits 111 = .ok (.ior, 1) := o128 hcX11_visits rfl
theorem dX11_visits_112 : decode cX11_visits 112 = .ok (.putfield 108, 3) := o181 hcX11_visits rfl
theorem dX11_visits_115 : decode cX11_visits 115 = .ok (.aload_n 0, 1) := o42 hcX11_visits rfl
theorem dX11_visits_116 : decode cX11_visits 116 = .ok (.getfield 99, 3) := o180 hcX11_visits rfl
theorem dX11_visits_119 : decode cX11_visits 119 = .ok (.aload_n 0, 1) := o42 hcX11_visits rfl
theorem dX11_visits_120 : decode cX11_visits 120 = .ok (.invokevirtual 330, 3) := o182 hcX11_visits rfl
theorem dX11_visits_123 : decode cX11_visits 123 = .ok (.if_icmp .ge 15, 3) := o162 hcX11_visits (a := 15) rfl rfl
theorem dX11_visits_126 : decode cX11_visits 126 = .ok (.aload_n 0, 1) := o42 hcX11_visits rfl
theorem dX11_visits_127 : decode cX11_visits 127 = .ok (.iload_n 1, 1) := o27 hcX11_visits rfl
theorem dX11_visits_128 : decode cX11_visits 128 = .ok (.invokevirtual 333, 3) := o182 hcX11_visits rfl
theorem dX11_visits_131 : decode cX11_visits 131 = .ok (.ifCond .eq 7, 3) := o153 hcX11_visits (a := 7) rfl rfl
theorem dX11_visits_134 : decode cX11_visits 134 = .ok (.iconst 1, 1) := o4 hcX11_visits rfl
theorem dX11_visits_135 : decode cX11_visits 135 = .ok (.goto 4, 3) := o167 hcX11_visits (a := 4) rfl rfl
theorem dX11_visits_138 : decode cX11_visits 138 = .ok (.iconst 0, 1) := o3 hcX11_visits rfl
theorem dX11_visits_139 : decode cX11_visits 139 = .ok (.istore_n 3, 1) := o62 hcX11_visits rfl
theorem dX11_visits_140 : decode cX11_visits 140 = .ok (.aload_n 0, 1) := o42 hcX11_visits rfl
theorem dX11_visits_141 : decode cX11_visits 141 = .ok (.dup, 1) := o89 hcX11_visits rfl
theorem dX11_visits_142 : decode cX11_visits 142 = .ok (.getfield 111, 3) := o180 hcX11_visits rfl
theorem dX11_visits_145 : decode cX11_visits 145 = .ok (.iload_n 3, 1) := o29 hcX11_visits rfl
theorem dX11_visits_146 : decode cX11_visits 146 = .ok (.ifCond .eq 9, 3) := o153 hcX11_visits (a := 9) rfl rfl
theorem dX11_visits_149 : decode cX11_visits 149 = .ok (.iconst 1, 1) := o4 hcX11_visits rfl
theorem dX11_visits_150 : decode cX11_visits 150 = .ok (.iload_n 1, 1) := o27 hcX11_visits rfl
theorem dX11_visits_151 : decode cX11_visits 151 = .ok (.ishl, 1) := o120 hcX11_visits rfl
theorem dX11_visits_152 : decode cX11_visits 152 = .ok (.goto 4, 3) := o167 hcX11_visits (a := 4) rfl rfl
theorem dX11_visits_155 : decode cX11_visits 155 = .ok (.iconst 0, 1) := o3 hcX11_visits rfl
theorem dX11_visits_156 : decode cX11_visits 156 = .ok (.ior, 1) := o128 hcX11_visits rfl
theorem dX11_visits_157 : decode cX11_visits 157 = .ok (.putfield 111, 3) := o181 hcX11_visits rfl
theorem dX11_visits_160 : decode cX11_visits 160 = .ok (.iload_n 3, 1) := o29 hcX11_visits rfl
theorem dX11_visits_161 : decode cX11_visits 161 = .ok (.ireturn, 1) := o172 hcX11_visits rfl
theorem dX11_comesIn_0 : decode cX11_comesIn 0 = .ok (.aload_n 0, 1) := o42 hcX11_comesIn rfl
theorem dX11_comesIn_1 : decode cX11_comesIn 1 = .ok (.iload_n 1, 1) := o27 hcX11_comesIn rfl
theorem dX11_comesIn_2 : decode cX11_comesIn 2 = .ok (.iload_n 3, 1) := o29 hcX11_comesIn rfl
theorem dX11_comesIn_3 : decode cX11_comesIn 3 = .ok (.invokevirtual 336, 3) := o182 hcX11_comesIn rfl
theorem dX11_comesIn_6 : decode cX11_comesIn 6 = .ok (.aload_n 0, 1) := o42 hcX11_comesIn rfl
theorem dX11_comesIn_7 : decode cX11_comesIn 7 = .ok (.iload_n 2, 1) := o28 hcX11_comesIn rfl
theorem dX11_comesIn_8 : decode cX11_comesIn 8 = .ok (.invokevirtual 340, 3) := o182 hcX11_comesIn rfl
theorem dX11_comesIn_11 : decode cX11_comesIn 11 = .ok (.ireturn, 1) := o172 hcX11_comesIn rfl
theorem dX11_visit_0 : decode cX11_visit 0 = .ok (.aload_n 0, 1) := o42 hcX11_visit rfl
theorem dX11_visit_1 : decode cX11_visit 1 = .ok (.iload_n 1, 1) := o27 hcX11_visit rfl
theorem dX11_visit_2 : decode cX11_visit 2 = .ok (.invokevirtual 236, 3) := o182 hcX11_visit rfl
theorem dX11_visit_5 : decode cX11_visit 5 = .ok (.ifCond .eq 21, 3) := o153 hcX11_visit (a := 21) rfl rfl
theorem dX11_visit_8 : decode cX11_visit 8 = .ok (.aload_n 0, 1) := o42 hcX11_visit rfl
theorem dX11_visit_9 : decode cX11_visit 9 = .ok (.iload_n 2, 1) := o28 hcX11_visit rfl
theorem dX11_visit_10 : decode cX11_visit 10 = .ok (.invokevirtual 232, 3) := o182 hcX11_visit rfl
theorem dX11_visit_13 : decode cX11_visit 13 = .ok (.ifCond .eq 13, 3) := o153 hcX11_visit (a := 13) rfl rfl
theorem dX11_visit_16 : decode cX11_visit 16 = .ok (.aload_n 0, 1) := o42 hcX11_visit rfl
theorem dX11_visit_17 : decode cX11_visit 17 = .ok (.iload_n 3, 1) := o29 hcX11_visit rfl
theorem dX11_visit_18 : decode cX11_visit 18 = .ok (.iconst 0, 1) := o3 hcX11_visit rfl
theorem dX11_visit_19 : decode cX11_visit 19 = .ok (.iconst 2, 1) := o5 hcX11_visit rfl
theorem dX11_visit_20 : decode cX11_visit 20 = .ok (.invokevirtual 224, 3) := o182 hcX11_visit rfl
theorem dX11_visit_23 : decode cX11_visit 23 = .ok (.ifCond .ne 5, 3) := o154 hcX11_visit (a := 5) rfl rfl
theorem dX11_visit_26 : decode cX11_visit 26 = .ok (.iconst (-1), 1) := o2 hcX11_visit rfl
theorem dX11_visit_27 : decode cX11_visit 27 = .ok (.ireturn, 1) := o172 hcX11_visit rfl
theorem dX11_visit_28 : decode cX11_visit 28 = .ok (.aload_n 0, 1) := o42 hcX11_visit rfl
theorem dX11_visit_29 : decode cX11_visit 29 = .ok (.iload_n 1, 1) := o27 hcX11_visit rfl
theorem dX11_visit_30 : decode cX11_visit 30 = .ok (.iload_n 2, 1) := o28 hcX11_visit rfl
theorem dX11_visit_31 : decode cX11_visit 31 = .ok (.iconst 0, 1) := o3 hcX11_visit rfl
theorem dX11_visit_32 : decode cX11_visit 32 = .ok (.invokevirtual 343, 3) := o182 hcX11_visit rfl
theorem dX11_visit_35 : decode cX11_visit 35 = .ok (.istore 4, 2) := o54 hcX11_visit rfl
theorem dX11_visit_37 : decode cX11_visit 37 = .ok (.iload_n 3, 1) := o29 hcX11_visit rfl
theorem dX11_visit_38 : decode cX11_visit 38 = .ok (.ifCond .ne 10, 3) := o154 hcX11_visit (a := 10) rfl rfl
theorem dX11_visit_41 : decode cX11_visit 41 = .ok (.aload_n 0, 1) := o42 hcX11_visit rfl
theorem dX11_visit_42 : decode cX11_visit 42 = .ok (.getfield 99, 3) := o180 hcX11_visit rfl
theorem dX11_visit_45 : decode cX11_visit 45 = .ok (.goto 25, 3) := o167 hcX11_visit (a := 25) rfl rfl
theorem dX11_visit_48 : decode cX11_visit 48 = .ok (.iload_n 3, 1) := o29 hcX11_visit rfl
theorem dX11_visit_49 : decode cX11_visit 49 = .ok (.iconst 1, 1) := o4 hcX11_visit rfl
theorem dX11_visit_50 : decode cX11_visit 50 = .ok (.if_icmp .ne 16, 3) := o160 hcX11_visit (a := 16) rfl rfl
theorem dX11_visit_53 : decode cX11_visit 53 = .ok (.iload 4, 2) := o21 hcX11_visit rfl
theorem dX11_visit_55 : decode cX11_visit 55 = .ok (.ifCond .eq 7, 3) := o153 hcX11_visit (a := 7) rfl rfl
theorem dX11_visit_58 : decode cX11_visit 58 = .ok (.iconst 1, 1) := o4 hcX11_visit rfl
theorem dX11_visit_59 : decode cX11_visit 59 = .ok (.goto 11, 3) := o167 hcX11_visit (a := 11) rfl rfl
theorem dX11_visit_62 : decode cX11_visit 62 = .ok (.iconst 0, 1) := o3 hcX11_visit rfl
theorem dX11_visit_63 : decode cX11_visit 63 = .ok (.goto 7, 3) := o167 hcX11_visit (a := 7) rfl rfl
theorem dX11_visit_66 : decode cX11_visit 66 = .ok (.aload_n 0, 1) := o42 hcX11_visit rfl
theorem dX11_visit_67 : decode cX11_visit 67 = .ok (.getfield 105, 3) := o180 hcX11_visit rfl
theorem dX11_visit_70 : decode cX11_visit 70 = .ok (.ireturn, 1) := o172 hcX11_visit rfl
theorem dX11_way_0 : decode cX11_way 0 = .ok (.iload_n 1, 1) := o27 hcX11_way rfl
theorem dX11_way_1 : decode cX11_way 1 = .ok (.iconst (-1), 1) := o2 hcX11_way rfl
theorem dX11_way_2 : decode cX11_way 2 = .ok (.if_icmp .ne 10, 3) := o160 hcX11_way (a := 10) rfl rfl
theorem dX11_way_5 : decode cX11_way 5 = .ok (.aload_n 0, 1) := o42 hcX11_way rfl
theorem dX11_way_6 : decode cX11_way 6 = .ok (.iconst 0, 1) := o3 hcX11_way rfl
theorem dX11_way_7 : decode cX11_way 7 = .ok (.putfield 114, 3) := o181 hcX11_way rfl
theorem dX11_way_10 : decode cX11_way 10 = .ok (.iconst 0, 1) := o3 hcX11_way rfl
theorem dX11_way_11 : decode cX11_way 11 = .ok (.ireturn, 1) := o172 hcX11_way rfl
theorem dX11_way_12 : decode cX11_way 12 = .ok (.aload_n 0, 1) := o42 hcX11_way rfl
theorem dX11_way_13 : decode cX11_way 13 = .ok (.iload_n 1, 1) := o27 hcX11_way rfl
theorem dX11_way_14 : decode cX11_way 14 = .ok (.invokevirtual 232, 3) := o182 hcX11_way rfl
theorem dX11_way_17 : decode cX11_way 17 = .ok (.ifCond .ne 5, 3) := o154 hcX11_way (a := 5) rfl rfl
theorem dX11_way_20 : decode cX11_way 20 = .ok (.iconst (-1), 1) := o2 hcX11_way rfl
theorem dX11_way_21 : decode cX11_way 21 = .ok (.ireturn, 1) := o172 hcX11_way rfl
theorem dX11_way_22 : decode cX11_way 22 = .ok (.aload_n 0, 1) := o42 hcX11_way rfl
theorem dX11_way_23 : decode cX11_way 23 = .ok (.getfield 114, 3) := o180 hcX11_way rfl
theorem dX11_way_26 : decode cX11_way 26 = .ok (.bipush 8, 2) := o16 hcX11_way (a := 8) rfl rfl
theorem dX11_way_28 : decode cX11_way 28 = .ok (.if_icmp .ne 6, 3) := o160 hcX11_way (a := 6) rfl rfl
theorem dX11_way_31 : decode cX11_way 31 = .ok (.bipush (-4), 2) := o16 hcX11_way (a := 252) rfl rfl
theorem dX11_way_33 : decode cX11_way 33 = .ok (.ireturn, 1) := o172 hcX11_way rfl
theorem dX11_way_34 : decode cX11_way 34 = .ok (.aload_n 0, 1) := o42 hcX11_way rfl
theorem dX11_way_35 : decode cX11_way 35 = .ok (.getfield 117, 3) := o180 hcX11_way rfl
theorem dX11_way_38 : decode cX11_way 38 = .ok (.aload_n 0, 1) := o42 hcX11_way rfl
theorem dX11_way_39 : decode cX11_way 39 = .ok (.getfield 114, 3) := o180 hcX11_way rfl
theorem dX11_way_42 : decode cX11_way 42 = .ok (.iload_n 1, 1) := o27 hcX11_way rfl
theorem dX11_way_43 : decode cX11_way 43 = .ok (.iastore, 1) := o79 hcX11_way rfl
theorem dX11_way_44 : decode cX11_way 44 = .ok (.aload_n 0, 1) := o42 hcX11_way rfl
theorem dX11_way_45 : decode cX11_way 45 = .ok (.dup, 1) := o89 hcX11_way rfl
theorem dX11_way_46 : decode cX11_way 46 = .ok (.getfield 114, 3) := o180 hcX11_way rfl
theorem dX11_way_49 : decode cX11_way 49 = .ok (.iconst 1, 1) := o4 hcX11_way rfl
theorem dX11_way_50 : decode cX11_way 50 = .ok (.iadd, 1) := o96 hcX11_way rfl
theorem dX11_way_51 : decode cX11_way 51 = .ok (.putfield 114, 3) := o181 hcX11_way rfl
theorem dX11_way_54 : decode cX11_way 54 = .ok (.aload_n 0, 1) := o42 hcX11_way rfl
theorem dX11_way_55 : decode cX11_way 55 = .ok (.getfield 114, 3) := o180 hcX11_way rfl
theorem dX11_way_58 : decode cX11_way 58 = .ok (.ireturn, 1) := o172 hcX11_way rfl
theorem dX11_goes_0 : decode cX11_goes 0 = .ok (.aload_n 0, 1) := o42 hcX11_goes rfl
theorem dX11_goes_1 : decode cX11_goes 1 = .ok (.iload_n 1, 1) := o27 hcX11_goes rfl
theorem dX11_goes_2 : decode cX11_goes 2 = .ok (.invokevirtual 236, 3) := o182 hcX11_goes rfl
theorem dX11_goes_5 : decode cX11_goes 5 = .ok (.ifCond .eq 13, 3) := o153 hcX11_goes (a := 13) rfl rfl
theorem dX11_goes_8 : decode cX11_goes 8 = .ok (.aload_n 0, 1) := o42 hcX11_goes rfl
theorem dX11_goes_9 : decode cX11_goes 9 = .ok (.iload_n 2, 1) := o28 hcX11_goes rfl
theorem dX11_goes_10 : decode cX11_goes 10 = .ok (.iconst 0, 1) := o3 hcX11_goes rfl
theorem dX11_goes_11 : decode cX11_goes 11 = .ok (.iconst 3, 1) := o6 hcX11_goes rfl
theorem dX11_goes_12 : decode cX11_goes 12 = .ok (.invokevirtual 224, 3) := o182 hcX11_goes rfl
theorem dX11_goes_15 : decode cX11_goes 15 = .ok (.ifCond .ne 5, 3) := o154 hcX11_goes (a := 5) rfl rfl
theorem dX11_goes_18 : decode cX11_goes 18 = .ok (.iconst (-1), 1) := o2 hcX11_goes rfl
theorem dX11_goes_19 : decode cX11_goes 19 = .ok (.ireturn, 1) := o172 hcX11_goes rfl
theorem dX11_goes_20 : decode cX11_goes 20 = .ok (.aload_n 0, 1) := o42 hcX11_goes rfl
theorem dX11_goes_21 : decode cX11_goes 21 = .ok (.iload_n 1, 1) := o27 hcX11_goes rfl
theorem dX11_goes_22 : decode cX11_goes 22 = .ok (.iconst 0, 1) := o3 hcX11_goes rfl
theorem dX11_goes_23 : decode cX11_goes 23 = .ok (.invokevirtual 336, 3) := o182 hcX11_goes rfl
theorem dX11_goes_26 : decode cX11_goes 26 = .ok (.bipush (-5), 2) := o16 hcX11_goes (a := 251) rfl rfl
theorem dX11_goes_28 : decode cX11_goes 28 = .ok (.istore_n 3, 1) := o62 hcX11_goes rfl
theorem dX11_goes_29 : decode cX11_goes 29 = .ok (.iconst 0, 1) := o3 hcX11_goes rfl
theorem dX11_goes_30 : decode cX11_goes 30 = .ok (.istore 4, 2) := o54 hcX11_goes rfl
theorem dX11_goes_32 : decode cX11_goes 32 = .ok (.iload 4, 2) := o21 hcX11_goes rfl
theorem dX11_goes_34 : decode cX11_goes 34 = .ok (.aload_n 0, 1) := o42 hcX11_goes rfl
theorem dX11_goes_35 : decode cX11_goes 35 = .ok (.getfield 114, 3) := o180 hcX11_goes rfl
theorem dX11_goes_38 : decode cX11_goes 38 = .ok (.if_icmp .ge 38, 3) := o162 hcX11_goes (a := 38) rfl rfl
theorem dX11_goes_41 : decode cX11_goes 41 = .ok (.aload_n 0, 1) := o42 hcX11_goes rfl
theorem dX11_goes_42 : decode cX11_goes 42 = .ok (.aload_n 0, 1) := o42 hcX11_goes rfl
theorem dX11_goes_43 : decode cX11_goes 43 = .ok (.getfield 117, 3) := o180 hcX11_goes rfl
theorem dX11_goes_46 : decode cX11_goes 46 = .ok (.iload 4, 2) := o21 hcX11_goes rfl
theorem dX11_goes_48 : decode cX11_goes 48 = .ok (.iaload, 1) := o46 hcX11_goes rfl
theorem dX11_goes_49 : decode cX11_goes 49 = .ok (.invokevirtual 340, 3) := o182 hcX11_goes rfl
theorem dX11_goes_52 : decode cX11_goes 52 = .ok (.istore 5, 2) := o54 hcX11_goes rfl
theorem dX11_goes_54 : decode cX11_goes 54 = .ok (.iload 5, 2) := o21 hcX11_goes rfl
theorem dX11_goes_56 : decode cX11_goes 56 = .ok (.ifCond .ne 12, 3) := o154 hcX11_goes (a := 12) rfl rfl
theorem dX11_goes_59 : decode cX11_goes 59 = .ok (.iload_n 3, 1) := o29 hcX11_goes rfl
theorem dX11_goes_60 : decode cX11_goes 60 = .ok (.ifCond .ge 8, 3) := o156 hcX11_goes (a := 8) rfl rfl
theorem dX11_goes_63 : decode cX11_goes 63 = .ok (.iload 4, 2) := o21 hcX11_goes rfl
theorem dX11_goes_65 : decode cX11_goes 65 = .ok (.goto 4, 3) := o167 hcX11_goes (a := 4) rfl rfl
theorem dX11_goes_68 : decode cX11_goes 68 = .ok (.iload_n 3, 1) := o29 hcX11_goes rfl
theorem dX11_goes_69 : decode cX11_goes 69 = .ok (.istore_n 3, 1) := o62 hcX11_goes rfl
theorem dX11_goes_70 : decode cX11_goes 70 = .ok (.iinc 4 1, 3) := o132 hcX11_goes (b := 1) rfl rfl
theorem dX11_goes_73 : decode cX11_goes 73 = .ok (.goto (-41), 3) := o167 hcX11_goes (a := 65495) rfl rfl
theorem dX11_goes_76 : decode cX11_goes 76 = .ok (.iload_n 2, 1) := o28 hcX11_goes rfl
theorem dX11_goes_77 : decode cX11_goes 77 = .ok (.ifCond .ne 10, 3) := o154 hcX11_goes (a := 10) rfl rfl
theorem dX11_goes_80 : decode cX11_goes 80 = .ok (.aload_n 0, 1) := o42 hcX11_goes rfl
theorem dX11_goes_81 : decode cX11_goes 81 = .ok (.getfield 99, 3) := o180 hcX11_goes rfl
theorem dX11_goes_84 : decode cX11_goes 84 = .ok (.goto 28, 3) := o167 hcX11_goes (a := 28) rfl rfl
theorem dX11_goes_87 : decode cX11_goes 87 = .ok (.iload_n 2, 1) := o28 hcX11_goes rfl
theorem dX11_goes_88 : decode cX11_goes 88 = .ok (.iconst 1, 1) := o4 hcX11_goes rfl
theorem dX11_goes_89 : decode cX11_goes 89 = .ok (.if_icmp .ne 10, 3) := o160 hcX11_goes (a := 10) rfl rfl
theorem dX11_goes_92 : decode cX11_goes 92 = .ok (.aload_n 0, 1) := o42 hcX11_goes rfl
theorem dX11_goes_93 : decode cX11_goes 93 = .ok (.getfield 105, 3) := o180 hcX11_goes rfl
theorem dX11_goes_96 : decode cX11_goes 96 = .ok (.goto 16, 3) := o167 hcX11_goes (a := 16) rfl rfl
theorem dX11_goes_99 : decode cX11_goes 99 = .ok (.iload_n 2, 1) := o28 hcX11_goes rfl
theorem dX11_goes_100 : decode cX11_goes 100 = .ok (.iconst 2, 1) := o5 hcX11_goes rfl
theorem dX11_goes_101 : decode cX11_goes 101 = .ok (.if_icmp .ne 10, 3) := o160 hcX11_goes (a := 10) rfl rfl
theorem dX11_goes_104 : decode cX11_goes 104 = .ok (.aload_n 0, 1) := o42 hcX11_goes rfl
theorem dX11_goes_105 : decode cX11_goes 105 = .ok (.getfield 111, 3) := o180 hcX11_goes rfl
theorem dX11_goes_108 : decode cX11_goes 108 = .ok (.goto 4, 3) := o167 hcX11_goes (a := 4) rfl rfl
theorem dX11_goes_111 : decode cX11_goes 111 = .ok (.iload_n 3, 1) := o29 hcX11_goes rfl
theorem dX11_goes_112 : decode cX11_goes 112 = .ok (.ireturn, 1) := o172 hcX11_goes rfl
theorem dX11_layOrder_0 : decode cX11_layOrder 0 = .ok (.aload_n 0, 1) := o42 hcX11_layOrder rfl
theorem dX11_layOrder_1 : decode cX11_layOrder 1 = .ok (.iload_n 1, 1) := o27 hcX11_layOrder rfl
theorem dX11_layOrder_2 : decode cX11_layOrder 2 = .ok (.invokevirtual 311, 3) := o182 hcX11_layOrder rfl
theorem dX11_layOrder_5 : decode cX11_layOrder 5 = .ok (.istore_n 3, 1) := o62 hcX11_layOrder rfl
theorem dX11_layOrder_6 : decode cX11_layOrder 6 = .ok (.iconst 1, 1) := o4 hcX11_layOrder rfl
theorem dX11_layOrder_7 : decode cX11_layOrder 7 = .ok (.istore 4, 2) := o54 hcX11_layOrder rfl
theorem dX11_layOrder_9 : decode cX11_layOrder 9 = .ok (.iconst 2, 1) := o5 hcX11_layOrder rfl
theorem dX11_layOrder_10 : decode cX11_layOrder 10 = .ok (.istore 5, 2) := o54 hcX11_layOrder rfl
theorem dX11_layOrder_12 : decode cX11_layOrder 12 = .ok (.iload 5, 2) := o21 hcX11_layOrder rfl
theorem dX11_layOrder_14 : decode cX11_layOrder 14 = .ok (.iload_n 3, 1) := o29 hcX11_layOrder rfl
theorem dX11_layOrder_15 : decode cX11_layOrder 15 = .ok (.if_icmp .gt 16, 3) := o163 hcX11_layOrder (a := 16) rfl rfl
theorem dX11_layOrder_18 : decode cX11_layOrder 18 = .ok (.iload 4, 2) := o21 hcX11_layOrder rfl
theorem dX11_layOrder_20 : decode cX11_layOrder 20 = .ok (.iload 5, 2) := o21 hcX11_layOrder rfl
theorem dX11_layOrder_22 : decode cX11_layOrder 22 = .ok (.imul, 1) := o104 hcX11_layOrder rfl
theorem dX11_layOrder_23 : decode cX11_layOrder 23 = .ok (.istore 4, 2) := o54 hcX11_layOrder rfl
theorem dX11_layOrder_25 : decode cX11_layOrder 25 = .ok (.iinc 5 1, 3) := o132 hcX11_layOrder (b := 1) rfl rfl
theorem dX11_layOrder_28 : decode cX11_layOrder 28 = .ok (.goto (-16), 3) := o167 hcX11_layOrder (a := 65520) rfl rfl
theorem dX11_layOrder_31 : decode cX11_layOrder 31 = .ok (.iload_n 2, 1) := o28 hcX11_layOrder rfl
theorem dX11_layOrder_32 : decode cX11_layOrder 32 = .ok (.iload 4, 2) := o21 hcX11_layOrder rfl
theorem dX11_layOrder_34 : decode cX11_layOrder 34 = .ok (.if_icmp .lt 5, 3) := o161 hcX11_layOrder (a := 5) rfl rfl
theorem dX11_layOrder_37 : decode cX11_layOrder 37 = .ok (.iconst 0, 1) := o3 hcX11_layOrder rfl
theorem dX11_layOrder_38 : decode cX11_layOrder 38 = .ok (.ireturn, 1) := o172 hcX11_layOrder rfl
theorem dX11_layOrder_39 : decode cX11_layOrder 39 = .ok (.iload_n 1, 1) := o27 hcX11_layOrder rfl
theorem dX11_layOrder_40 : decode cX11_layOrder 40 = .ok (.istore 5, 2) := o54 hcX11_layOrder rfl
theorem dX11_layOrder_42 : decode cX11_layOrder 42 = .ok (.iload_n 2, 1) := o28 hcX11_layOrder rfl
theorem dX11_layOrder_43 : decode cX11_layOrder 43 = .ok (.istore 6, 2) := o54 hcX11_layOrder rfl
theorem dX11_layOrder_45 : decode cX11_layOrder 45 = .ok (.iconst 0, 1) := o3 hcX11_layOrder rfl
theorem dX11_layOrder_46 : decode cX11_layOrder 46 = .ok (.istore 7, 2) := o54 hcX11_layOrder rfl
theorem dX11_layOrder_48 : decode cX11_layOrder 48 = .ok (.iload 7, 2) := o21 hcX11_layOrder rfl
theorem dX11_layOrder_50 : decode cX11_layOrder 50 = .ok (.iload_n 3, 1) := o29 hcX11_layOrder rfl
theorem dX11_layOrder_51 : decode cX11_layOrder 51 = .ok (.if_icmp .ge 98, 3) := o162 hcX11_layOrder (a := 98) rfl rfl
theorem dX11_layOrder_54 : decode cX11_layOrder 54 = .ok (.iload 4, 2) := o21 hcX11_layOrder rfl
theorem dX11_layOrder_56 : decode cX11_layOrder 56 = .ok (.iload_n 3, 1) := o29 hcX11_layOrder rfl
theorem dX11_layOrder_57 : decode cX11_layOrder 57 = .ok (.iload 7, 2) := o21 hcX11_layOrder rfl
theorem dX11_layOrder_59 : decode cX11_layOrder 59 = .ok (.isub, 1) := o100 hcX11_layOrder rfl
theorem dX11_layOrder_60 : decode cX11_layOrder 60 = .ok (.idiv, 1) := o108 hcX11_layOrder rfl
theorem dX11_layOrder_61 : decode cX11_layOrder 61 = .ok (.istore 4, 2) := o54 hcX11_layOrder rfl
theorem dX11_layOrder_63 : decode cX11_layOrder 63 = .ok (.iload 6, 2) := o21 hcX11_layOrder rfl
theorem dX11_layOrder_65 : decode cX11_layOrder 65 = .ok (.iload 4, 2) := o21 hcX11_layOrder rfl
theorem dX11_layOrder_67 : decode cX11_layOrder 67 = .ok (.idiv, 1) := o108 hcX11_layOrder rfl
theorem dX11_layOrder_68 : decode cX11_layOrder 68 = .ok (.istore 8, 2) := o54 hcX11_layOrder rfl
theorem dX11_layOrder_70 : decode cX11_layOrder 70 = .ok (.iload 6, 2) := o21 hcX11_layOrder rfl
theorem dX11_layOrder_72 : decode cX11_layOrder 72 = .ok (.iload 4, 2) := o21 hcX11_layOrder rfl
theorem dX11_layOrder_74 : decode cX11_layOrder 74 = .ok (.irem, 1) := o112 hcX11_layOrder rfl
theorem dX11_layOrder_75 : decode cX11_layOrder 75 = .ok (.istore 6, 2) := o54 hcX11_layOrder rfl
theorem dX11_layOrder_77 : decode cX11_layOrder 77 = .ok (.iconst 0, 1) := o3 hcX11_layOrder rfl
theorem dX11_layOrder_78 : decode cX11_layOrder 78 = .ok (.istore 9, 2) := o54 hcX11_layOrder rfl
theorem dX11_layOrder_80 : decode cX11_layOrder 80 = .ok (.aload_n 0, 1) := o42 hcX11_layOrder rfl
theorem dX11_layOrder_81 : decode cX11_layOrder 81 = .ok (.iload 5, 2) := o21 hcX11_layOrder rfl
theorem dX11_layOrder_83 : decode cX11_layOrder 83 = .ok (.iload 9, 2) := o21 hcX11_layOrder rfl
theorem dX11_layOrder_85 : decode cX11_layOrder 85 = .ok (.invokevirtual 314, 3) := o182 hcX11_layOrder rfl
theorem dX11_layOrder_88 : decode cX11_layOrder 88 = .ok (.ifCond .eq 8, 3) := o153 hcX11_layOrder (a := 8) rfl rfl
theorem dX11_layOrder_91 : decode cX11_layOrder 91 = .ok (.iload 8, 2) := o21 hcX11_layOrder rfl
theorem dX11_layOrder_93 : decode cX11_layOrder 93 = .ok (.ifCond .le 30, 3) := o158 hcX11_layOrder (a := 30) rfl rfl
theorem dX11_layOrder_96 : decode cX11_layOrder 96 = .ok (.iload 8, 2) := o21 hcX11_layOrder rfl
theorem dX11_layOrder_98 : decode cX11_layOrder 98 = .ok (.aload_n 0, 1) := o42 hcX11_layOrder rfl
theorem dX11_layOrder_99 : decode cX11_layOrder 99 = .ok (.iload 5, 2) := o21 hcX11_layOrder rfl
theorem dX11_layOrder_101 : decode cX11_layOrder 101 = .ok (.iload 9, 2) := o21 hcX11_layOrder rfl
theorem dX11_layOrder_103 : decode cX11_layOrder 103 = .ok (.invokevirtual 314, 3) := o182 hcX11_layOrder rfl
theorem dX11_layOrder_106 : decode cX11_layOrder 106 = .ok (.ifCond .eq 7, 3) := o153 hcX11_layOrder (a := 7) rfl rfl
theorem dX11_layOrder_109 : decode cX11_layOrder 109 = .ok (.iconst 1, 1) := o4 hcX11_layOrder rfl
theorem dX11_layOrder_110 : decode cX11_layOrder 110 = .ok (.goto 4, 3) := o167 hcX11_layOrder (a := 4) rfl rfl
theorem dX11_layOrder_113 : decode cX11_layOrder 113 = .ok (.iconst 0, 1) := o3 hcX11_layOrder rfl
theorem dX11_layOrder_114 : decode cX11_layOrder 114 = .ok (.isub, 1) := o100 hcX11_layOrder rfl
theorem dX11_layOrder_115 : decode cX11_layOrder 115 = .ok (.istore 8, 2) := o54 hcX11_layOrder rfl
theorem dX11_layOrder_117 : decode cX11_layOrder 117 = .ok (.iinc 9 1, 3) := o132 hcX11_layOrder (b := 1) rfl rfl
theorem dX11_layOrder_120 : decode cX11_layOrder 120 = .ok (.goto (-40), 3) := o167 hcX11_layOrder (a := 65496) rfl rfl
theorem dX11_layOrder_123 : decode cX11_layOrder 123 = .ok (.aload_n 0, 1) := o42 hcX11_layOrder rfl
theorem dX11_layOrder_124 : decode cX11_layOrder 124 = .ok (.getfield 120, 3) := o180 hcX11_layOrder rfl
theorem dX11_layOrder_127 : decode cX11_layOrder 127 = .ok (.iload 7, 2) := o21 hcX11_layOrder rfl
theorem dX11_layOrder_129 : decode cX11_layOrder 129 = .ok (.iload 9, 2) := o21 hcX11_layOrder rfl
theorem dX11_layOrder_131 : decode cX11_layOrder 131 = .ok (.iastore, 1) := o79 hcX11_layOrder rfl
theorem dX11_layOrder_132 : decode cX11_layOrder 132 = .ok (.iload 5, 2) := o21 hcX11_layOrder rfl
theorem dX11_layOrder_134 : decode cX11_layOrder 134 = .ok (.iconst 1, 1) := o4 hcX11_layOrder rfl
theorem dX11_layOrder_135 : decode cX11_layOrder 135 = .ok (.iload 9, 2) := o21 hcX11_layOrder rfl
theorem dX11_layOrder_137 : decode cX11_layOrder 137 = .ok (.ishl, 1) := o120 hcX11_layOrder rfl
theorem dX11_layOrder_138 : decode cX11_layOrder 138 = .ok (.iconst (-1), 1) := o2 hcX11_layOrder rfl
theorem dX11_layOrder_139 : decode cX11_layOrder 139 = .ok (.ixor, 1) := o130 hcX11_layOrder rfl
theorem dX11_layOrder_140 : decode cX11_layOrder 140 = .ok (.iand, 1) := o126 hcX11_layOrder rfl
theorem dX11_layOrder_141 : decode cX11_layOrder 141 = .ok (.istore 5, 2) := o54 hcX11_layOrder rfl
theorem dX11_layOrder_143 : decode cX11_layOrder 143 = .ok (.iinc 7 1, 3) := o132 hcX11_layOrder (b := 1) rfl rfl
theorem dX11_layOrder_146 : decode cX11_layOrder 146 = .ok (.goto (-98), 3) := o167 hcX11_layOrder (a := 65438) rfl rfl
theorem dX11_layOrder_149 : decode cX11_layOrder 149 = .ok (.iconst 1, 1) := o4 hcX11_layOrder rfl
theorem dX11_layOrder_150 : decode cX11_layOrder 150 = .ok (.ireturn, 1) := o172 hcX11_layOrder rfl
theorem dX11_round_0 : decode cX11_round 0 = .ok (.aload_n 0, 1) := o42 hcX11_round rfl
theorem dX11_round_1 : decode cX11_round 1 = .ok (.iload_n 1, 1) := o27 hcX11_round rfl
theorem dX11_round_2 : decode cX11_round 2 = .ok (.invokevirtual 236, 3) := o182 hcX11_round rfl
theorem dX11_round_5 : decode cX11_round 5 = .ok (.ifCond .eq 25, 3) := o153 hcX11_round (a := 25) rfl rfl
theorem dX11_round_8 : decode cX11_round 8 = .ok (.aload_n 0, 1) := o42 hcX11_round rfl
theorem dX11_round_9 : decode cX11_round 9 = .ok (.iload_n 3, 1) := o29 hcX11_round rfl
theorem dX11_round_10 : decode cX11_round 10 = .ok (.iconst 0, 1) := o3 hcX11_round rfl
theorem dX11_round_11 : decode cX11_round 11 = .ok (.iconst 1, 1) := o4 hcX11_round rfl
theorem dX11_round_12 : decode cX11_round 12 = .ok (.invokevirtual 224, 3) := o182 hcX11_round rfl
theorem dX11_round_15 : decode cX11_round 15 = .ok (.ifCond .ne 17, 3) := o154 hcX11_round (a := 17) rfl rfl
theorem dX11_round_18 : decode cX11_round 18 = .ok (.aload_n 0, 1) := o42 hcX11_round rfl
theorem dX11_round_19 : decode cX11_round 19 = .ok (.iload_n 3, 1) := o29 hcX11_round rfl
theorem dX11_round_20 : decode cX11_round 20 = .ok (.bipush 10, 2) := o16 hcX11_round (a := 10) rfl rfl
theorem dX11_round_22 : decode cX11_round 22 = .ok (.bipush 14, 2) := o16 hcX11_round (a := 14) rfl rfl
theorem dX11_round_24 : decode cX11_round 24 = .ok (.invokevirtual 224, 3) := o182 hcX11_round rfl
theorem dX11_round_27 : decode cX11_round 27 = .ok (.ifCond .ne 5, 3) := o154 hcX11_round (a := 5) rfl rfl
theorem dX11_round_30 : decode cX11_round 30 = .ok (.iconst (-1), 1) := o2 hcX11_round rfl
theorem dX11_round_31 : decode cX11_round 31 = .ok (.ireturn, 1) := o172 hcX11_round rfl
theorem dX11_round_32 : decode cX11_round 32 = .ok (.aload_n 0, 1) := o42 hcX11_round rfl
theorem dX11_round_33 : decode cX11_round 33 = .ok (.iload_n 2, 1) := o28 hcX11_round rfl
theorem dX11_round_34 : decode cX11_round 34 = .ok (.iconst 0, 1) := o3 hcX11_round rfl
theorem dX11_round_35 : decode cX11_round 35 = .ok (.iconst 1, 1) := o4 hcX11_round rfl
theorem dX11_round_36 : decode cX11_round 36 = .ok (.aload_n 0, 1) := o42 hcX11_round rfl
theorem dX11_round_37 : decode cX11_round 37 = .ok (.getfield 7, 3) := o180 hcX11_round rfl
theorem dX11_round_40 : decode cX11_round 40 = .ok (.ishl, 1) := o120 hcX11_round rfl
theorem dX11_round_41 : decode cX11_round 41 = .ok (.iconst 1, 1) := o4 hcX11_round rfl
theorem dX11_round_42 : decode cX11_round 42 = .ok (.isub, 1) := o100 hcX11_round rfl
theorem dX11_round_43 : decode cX11_round 43 = .ok (.invokevirtual 224, 3) := o182 hcX11_round rfl
theorem dX11_round_46 : decode cX11_round 46 = .ok (.ifCond .eq 12, 3) := o153 hcX11_round (a := 12) rfl rfl
theorem dX11_round_49 : decode cX11_round 49 = .ok (.aload_n 0, 1) := o42 hcX11_round rfl
theorem dX11_round_50 : decode cX11_round 50 = .ok (.iload_n 2, 1) := o28 hcX11_round rfl
theorem dX11_round_51 : decode cX11_round 51 = .ok (.invokevirtual 311, 3) := o182 hcX11_round rfl
theorem dX11_round_54 : decode cX11_round 54 = .ok (.iconst 5, 1) := o8 hcX11_round rfl
theorem dX11_round_55 : decode cX11_round 55 = .ok (.if_icmp .le 6, 3) := o164 hcX11_round (a := 6) rfl rfl
theorem dX11_round_58 : decode cX11_round 58 = .ok (.bipush (-2), 2) := o16 hcX11_round (a := 254) rfl rfl
theorem dX11_round_60 : decode cX11_round 60 = .ok (.ireturn, 1) := o172 hcX11_round rfl
theorem dX11_round_61 : decode cX11_round 61 = .ok (.aload_n 0, 1) := o42 hcX11_round rfl
theorem dX11_round_62 : decode cX11_round 62 = .ok (.iload_n 2, 1) := o28 hcX11_round rfl
theorem dX11_round_63 : decode cX11_round 63 = .ok (.invokevirtual 311, 3) := o182 hcX11_round rfl
theorem dX11_round_66 : decode cX11_round 66 = .ok (.istore 4, 2) := o54 hcX11_round rfl
theorem dX11_round_68 : decode cX11_round 68 = .ok (.iconst (-1), 1) := o2 hcX11_round rfl
theorem dX11_round_69 : decode cX11_round 69 = .ok (.istore 5, 2) := o54 hcX11_round rfl
theorem dX11_round_71 : decode cX11_round 71 = .ok (.iconst 0, 1) := o3 hcX11_round rfl
theorem dX11_round_72 : decode cX11_round 72 = .ok (.istore 6, 2) := o54 hcX11_round rfl
theorem dX11_round_74 : decode cX11_round 74 = .ok (.iconst 0, 1) := o3 hcX11_round rfl
theorem dX11_round_75 : decode cX11_round 75 = .ok (.istore 7, 2) := o54 hcX11_round rfl
theorem dX11_round_77 : decode cX11_round 77 = .ok (.aload_n 0, 1) := o42 hcX11_round rfl
theorem dX11_round_78 : decode cX11_round 78 = .ok (.iload_n 2, 1) := o28 hcX11_round rfl
theorem dX11_round_79 : decode cX11_round 79 = .ok (.iload 7, 2) := o21 hcX11_round rfl
theorem dX11_round_81 : decode cX11_round 81 = .ok (.invokevirtual 346, 3) := o182 hcX11_round rfl
theorem dX11_round_84 : decode cX11_round 84 = .ok (.ifCond .eq 123, 3) := o153 hcX11_round (a := 123) rfl rfl
theorem dX11_round_87 : decode cX11_round 87 = .ok (.aload_n 0, 1) := o42 hcX11_round rfl
theorem dX11_round_88 : decode cX11_round 88 = .ok (.iload_n 1, 1) := o27 hcX11_round rfl
theorem dX11_round_89 : decode cX11_round 89 = .ok (.iconst 0, 1) := o3 hcX11_round rfl
theorem dX11_round_90 : decode cX11_round 90 = .ok (.invokevirtual 336, 3) := o182 hcX11_round rfl
theorem dX11_round_93 : decode cX11_round 93 = .ok (.iconst 0, 1) := o3 hcX11_round rfl
theorem dX11_round_94 : decode cX11_round 94 = .ok (.istore 8, 2) := o54 hcX11_round rfl
theorem dX11_round_96 : decode cX11_round 96 = .ok (.iconst 0, 1) := o3 hcX11_round rfl
theorem dX11_round_97 : decode cX11_round 97 = .ok (.istore 9, 2) := o54 hcX11_round rfl
theorem dX11_round_99 : decode cX11_round 99 = .ok (.iload 9, 2) := o21 hcX11_round rfl
theorem dX11_round_101 : decode cX11_round 101 = .ok (.iload 4, 2) := o21 hcX11_round rfl
theorem dX11_round_103 : decode cX11_round 103 = .ok (.if_icmp .ge 33, 3) := o162 hcX11_round (a := 33) rfl rfl
theorem dX11_round_106 : decode cX11_round 106 = .ok (.iload 8, 2) := o21 hcX11_round rfl
theorem dX11_round_108 : decode cX11_round 108 = .ok (.aload_n 0, 1) := o42 hcX11_round rfl
theorem dX11_round_109 : decode cX11_round 109 = .ok (.aload_n 0, 1) := o42 hcX11_round rfl
theorem dX11_round_110 : decode cX11_round 110 = .ok (.getfield 120, 3) := o180 hcX11_round rfl
theorem dX11_round_113 : decode cX11_round 113 = .ok (.iload 9, 2) := o21 hcX11_round rfl
theorem dX11_round_115 : decode cX11_round 115 = .ok (.iaload, 1) := o46 hcX11_round rfl
theorem dX11_round_116 : decode cX11_round 116 = .ok (.invokevirtual 340, 3) := o182 hcX11_round rfl
theorem dX11_round_119 : decode cX11_round 119 = .ok (.ifCond .eq 7, 3) := o153 hcX11_round (a := 7) rfl rfl
theorem dX11_round_122 : decode cX11_round 122 = .ok (.iconst 1, 1) := o4 hcX11_round rfl
theorem dX11_round_123 : decode cX11_round 123 = .ok (.goto 4, 3) := o167 hcX11_round (a := 4) rfl rfl
theorem dX11_round_126 : decode cX11_round 126 = .ok (.iconst 0, 1) := o3 hcX11_round rfl
theorem dX11_round_127 : decode cX11_round 127 = .ok (.iadd, 1) := o96 hcX11_round rfl
theorem dX11_round_128 : decode cX11_round 128 = .ok (.istore 8, 2) := o54 hcX11_round rfl
theorem dX11_round_130 : decode cX11_round 130 = .ok (.iinc 9 1, 3) := o132 hcX11_round (b := 1) rfl rfl
theorem dX11_round_133 : decode cX11_round 133 = .ok (.goto (-34), 3) := o167 hcX11_round (a := 65502) rfl rfl
theorem dX11_round_136 : decode cX11_round 136 = .ok (.iload 8, 2) := o21 hcX11_round rfl
theorem dX11_round_138 : decode cX11_round 138 = .ok (.iload 5, 2) := o21 hcX11_round rfl
theorem dX11_round_140 : decode cX11_round 140 = .ok (.if_icmp .lt 61, 3) := o161 hcX11_round (a := 61) rfl rfl
theorem dX11_round_143 : decode cX11_round 143 = .ok (.iload 8, 2) := o21 hcX11_round rfl
theorem dX11_round_145 : decode cX11_round 145 = .ok (.iload 5, 2) := o21 hcX11_round rfl
theorem dX11_round_147 : decode cX11_round 147 = .ok (.if_icmp .ne 15, 3) := o160 hcX11_round (a := 15) rfl rfl
theorem dX11_round_150 : decode cX11_round 150 = .ok (.aload_n 0, 1) := o42 hcX11_round rfl
theorem dX11_round_151 : decode cX11_round 151 = .ok (.getfield 99, 3) := o180 hcX11_round rfl
theorem dX11_round_154 : decode cX11_round 154 = .ok (.iload 6, 2) := o21 hcX11_round rfl
theorem dX11_round_156 : decode cX11_round 156 = .ok (.if_icmp .lt 6, 3) := o161 hcX11_round (a := 6) rfl rfl
theorem dX11_round_159 : decode cX11_round 159 = .ok (.goto 42, 3) := o167 hcX11_round (a := 42) rfl rfl
theorem dX11_round_162 : decode cX11_round 162 = .ok (.iload 8, 2) := o21 hcX11_round rfl
theorem dX11_round_164 : decode cX11_round 164 = .ok (.istore 5, 2) := o54 hcX11_round rfl
theorem dX11_round_166 : decode cX11_round 166 = .ok (.aload_n 0, 1) := o42 hcX11_round rfl
theorem dX11_round_167 : decode cX11_round 167 = .ok (.getfield 99, 3) := o180 hcX11_round rfl
theorem dX11_round_170 : decode cX11_round 170 = .ok (.istore 6, 2) := o54 hcX11_round rfl
theorem dX11_round_172 : decode cX11_round 172 = .ok (.iconst 0, 1) := o3 hcX11_round rfl
theorem dX11_round_173 : decode cX11_round 173 = .ok (.istore 9, 2) := o54 hcX11_round rfl
theorem dX11_round_175 : decode cX11_round 175 = .ok (.iload 9, 2) := o21 hcX11_round rfl
theorem dX11_round_177 : decode cX11_round 177 = .ok (.iconst 5, 1) := o8 hcX11_round rfl
theorem dX11_round_178 : decode cX11_round 178 = .ok (.if_icmp .ge 23, 3) := o162 hcX11_round (a := 23) rfl rfl
theorem dX11_round_181 : decode cX11_round 181 = .ok (.aload_n 0, 1) := o42 hcX11_round rfl
theorem dX11_round_182 : decode cX11_round 182 = .ok (.getfield 123, 3) := o180 hcX11_round rfl
theorem dX11_round_185 : decode cX11_round 185 = .ok (.iload 9, 2) := o21 hcX11_round rfl
theorem dX11_round_187 : decode cX11_round 187 = .ok (.aload_n 0, 1) := o42 hcX11_round rfl
theorem dX11_round_188 : decode cX11_round 188 = .ok (.getfield 120, 3) := o180 hcX11_round rfl
theorem dX11_round_191 : decode cX11_round 191 = .ok (.iload 9, 2) := o21 hcX11_round rfl
theorem dX11_round_193 : decode cX11_round 193 = .ok (.iaload, 1) := o46 hcX11_round rfl
theorem dX11_round_194 : decode cX11_round 194 = .ok (.iastore, 1) := o79 hcX11_round rfl
theorem dX11_round_195 : decode cX11_round 195 = .ok (.iinc 9 1, 3) := o132 hcX11_round (b := 1) rfl rfl
theorem dX11_round_198 : decode cX11_round 198 = .ok (.goto (-23), 3) := o167 hcX11_round (a := 65513) rfl rfl
theorem dX11_round_201 : decode cX11_round 201 = .ok (.iinc 7 1, 3) := o132 hcX11_round (b := 1) rfl rfl
theorem dX11_round_204 : decode cX11_round 204 = .ok (.goto (-127), 3) := o167 hcX11_round (a := 65409) rfl rfl
theorem dX11_round_207 : decode cX11_round 207 = .ok (.iload_n 3, 1) := o29 hcX11_round rfl
theorem dX11_round_208 : decode cX11_round 208 = .ok (.ifCond .ne 8, 3) := o154 hcX11_round (a := 8) rfl rfl
theorem dX11_round_211 : decode cX11_round 211 = .ok (.iload 5, 2) := o21 hcX11_round rfl
theorem dX11_round_213 : decode cX11_round 213 = .ok (.goto 36, 3) := o167 hcX11_round (a := 36) rfl rfl
theorem dX11_round_216 : decode cX11_round 216 = .ok (.iload_n 3, 1) := o29 hcX11_round rfl
theorem dX11_round_217 : decode cX11_round 217 = .ok (.iconst 1, 1) := o4 hcX11_round rfl
theorem dX11_round_218 : decode cX11_round 218 = .ok (.if_icmp .ne 8, 3) := o160 hcX11_round (a := 8) rfl rfl
theorem dX11_round_221 : decode cX11_round 221 = .ok (.iload 6, 2) := o21 hcX11_round rfl
theorem dX11_round_223 : decode cX11_round 223 = .ok (.goto 26, 3) := o167 hcX11_round (a := 26) rfl rfl
theorem dX11_round_226 : decode cX11_round 226 = .ok (.iload_n 3, 1) := o29 hcX11_round rfl
theorem dX11_round_227 : decode cX11_round 227 = .ok (.bipush 10, 2) := o16 hcX11_round (a := 10) rfl rfl
theorem dX11_round_229 : decode cX11_round 229 = .ok (.isub, 1) := o100 hcX11_round rfl
theorem dX11_round_230 : decode cX11_round 230 = .ok (.iload 4, 2) := o21 hcX11_round rfl
theorem dX11_round_232 : decode cX11_round 232 = .ok (.if_icmp .ge 15, 3) := o162 hcX11_round (a := 15) rfl rfl
theorem dX11_round_235 : decode cX11_round 235 = .ok (.aload_n 0, 1) := o42 hcX11_round rfl
theorem dX11_round_236 : decode cX11_round 236 = .ok (.getfield 123, 3) := o180 hcX11_round rfl
theorem dX11_round_239 : decode cX11_round 239 = .ok (.iload_n 3, 1) := o29 hcX11_round rfl
theorem dX11_round_240 : decode cX11_round 240 = .ok (.bipush 10, 2) := o16 hcX11_round (a := 10) rfl rfl
theorem dX11_round_242 : decode cX11_round 242 = .ok (.isub, 1) := o100 hcX11_round rfl
theorem dX11_round_243 : decode cX11_round 243 = .ok (.iaload, 1) := o46 hcX11_round rfl
theorem dX11_round_244 : decode cX11_round 244 = .ok (.goto 5, 3) := o167 hcX11_round (a := 5) rfl rfl
theorem dX11_round_247 : decode cX11_round 247 = .ok (.bipush (-5), 2) := o16 hcX11_round (a := 251) rfl rfl
theorem dX11_round_249 : decode cX11_round 249 = .ok (.ireturn, 1) := o172 hcX11_round rfl
theorem dX11_keep_0 : decode cX11_keep 0 = .ok (.aload_n 0, 1) := o42 hcX11_keep rfl
theorem dX11_keep_1 : decode cX11_keep 1 = .ok (.iload_n 1, 1) := o27 hcX11_keep rfl
theorem dX11_keep_2 : decode cX11_keep 2 = .ok (.invokevirtual 232, 3) := o182 hcX11_keep rfl
theorem dX11_keep_5 : decode cX11_keep 5 = .ok (.ifCond .eq 11, 3) := o153 hcX11_keep (a := 11) rfl rfl
theorem dX11_keep_8 : decode cX11_keep 8 = .ok (.aload_n 0, 1) := o42 hcX11_keep rfl
theorem dX11_keep_9 : decode cX11_keep 9 = .ok (.iload_n 2, 1) := o28 hcX11_keep rfl
theorem dX11_keep_10 : decode cX11_keep 10 = .ok (.invokevirtual 236, 3) := o182 hcX11_keep rfl
theorem dX11_keep_13 : decode cX11_keep 13 = .ok (.ifCond .ne 5, 3) := o154 hcX11_keep (a := 5) rfl rfl
theorem dX11_keep_16 : decode cX11_keep 16 = .ok (.iconst (-1), 1) := o2 hcX11_keep rfl
theorem dX11_keep_17 : decode cX11_keep 17 = .ok (.ireturn, 1) := o172 hcX11_keep rfl
theorem dX11_keep_18 : decode cX11_keep 18 = .ok (.aload_n 0, 1) := o42 hcX11_keep rfl
theorem dX11_keep_19 : decode cX11_keep 19 = .ok (.getfield 23, 3) := o180 hcX11_keep rfl
theorem dX11_keep_22 : decode cX11_keep 22 = .ok (.iload_n 1, 1) := o27 hcX11_keep rfl
theorem dX11_keep_23 : decode cX11_keep 23 = .ok (.iaload, 1) := o46 hcX11_keep rfl
theorem dX11_keep_24 : decode cX11_keep 24 = .ok (.istore_n 3, 1) := o62 hcX11_keep rfl
theorem dX11_keep_25 : decode cX11_keep 25 = .ok (.bipush (-5), 2) := o16 hcX11_keep (a := 251) rfl rfl
theorem dX11_keep_27 : decode cX11_keep 27 = .ok (.istore 4, 2) := o54 hcX11_keep rfl
theorem dX11_keep_29 : decode cX11_keep 29 = .ok (.iconst 0, 1) := o3 hcX11_keep rfl
theorem dX11_keep_30 : decode cX11_keep 30 = .ok (.istore 5, 2) := o54 hcX11_keep rfl
theorem dX11_keep_32 : decode cX11_keep 32 = .ok (.iload 5, 2) := o21 hcX11_keep rfl
theorem dX11_keep_34 : decode cX11_keep 34 = .ok (.bipush 100, 2) := o16 hcX11_keep (a := 100) rfl rfl
theorem dX11_keep_36 : decode cX11_keep 36 = .ok (.if_icmp .ge 41, 3) := o162 hcX11_keep (a := 41) rfl rfl
theorem dX11_keep_39 : decode cX11_keep 39 = .ok (.iload 4, 2) := o21 hcX11_keep rfl
theorem dX11_keep_41 : decode cX11_keep 41 = .ok (.ifCond .ge 36, 3) := o156 hcX11_keep (a := 36) rfl rfl
theorem dX11_keep_44 : decode cX11_keep 44 = .ok (.aload_n 0, 1) := o42 hcX11_keep rfl
theorem dX11_keep_45 : decode cX11_keep 45 = .ok (.getfield 23, 3) := o180 hcX11_keep rfl
theorem dX11_keep_48 : decode cX11_keep 48 = .ok (.iload_n 1, 1) := o27 hcX11_keep rfl
theorem dX11_keep_49 : decode cX11_keep 49 = .ok (.iload 5, 2) := o21 hcX11_keep rfl
theorem dX11_keep_51 : decode cX11_keep 51 = .ok (.iastore, 1) := o79 hcX11_keep rfl
theorem dX11_keep_52 : decode cX11_keep 52 = .ok (.aload_n 0, 1) := o42 hcX11_keep rfl
theorem dX11_keep_53 : decode cX11_keep 53 = .ok (.iload_n 2, 1) := o28 hcX11_keep rfl
theorem dX11_keep_54 : decode cX11_keep 54 = .ok (.iload_n 1, 1) := o27 hcX11_keep rfl
theorem dX11_keep_55 : decode cX11_keep 55 = .ok (.iconst 0, 1) := o3 hcX11_keep rfl
theorem dX11_keep_56 : decode cX11_keep 56 = .ok (.invokevirtual 343, 3) := o182 hcX11_keep rfl
theorem dX11_keep_59 : decode cX11_keep 59 = .ok (.ifCond .eq 8, 3) := o153 hcX11_keep (a := 8) rfl rfl
theorem dX11_keep_62 : decode cX11_keep 62 = .ok (.bipush (-5), 2) := o16 hcX11_keep (a := 251) rfl rfl
theorem dX11_keep_64 : decode cX11_keep 64 = .ok (.goto 5, 3) := o167 hcX11_keep (a := 5) rfl rfl
theorem dX11_keep_67 : decode cX11_keep 67 = .ok (.iload 5, 2) := o21 hcX11_keep rfl
theorem dX11_keep_69 : decode cX11_keep 69 = .ok (.istore 4, 2) := o54 hcX11_keep rfl
theorem dX11_keep_71 : decode cX11_keep 71 = .ok (.iinc 5 1, 3) := o132 hcX11_keep (b := 1) rfl rfl
theorem dX11_keep_74 : decode cX11_keep 74 = .ok (.goto (-42), 3) := o167 hcX11_keep (a := 65494) rfl rfl
theorem dX11_keep_77 : decode cX11_keep 77 = .ok (.aload_n 0, 1) := o42 hcX11_keep rfl
theorem dX11_keep_78 : decode cX11_keep 78 = .ok (.getfield 23, 3) := o180 hcX11_keep rfl
theorem dX11_keep_81 : decode cX11_keep 81 = .ok (.iload_n 1, 1) := o27 hcX11_keep rfl
theorem dX11_keep_82 : decode cX11_keep 82 = .ok (.iload_n 3, 1) := o29 hcX11_keep rfl
theorem dX11_keep_83 : decode cX11_keep 83 = .ok (.iastore, 1) := o79 hcX11_keep rfl
theorem dX11_keep_84 : decode cX11_keep 84 = .ok (.iload 4, 2) := o21 hcX11_keep rfl
theorem dX11_keep_86 : decode cX11_keep 86 = .ok (.ireturn, 1) := o172 hcX11_keep rfl
theorem dX11_pairsIn_0 : decode cX11_pairsIn 0 = .ok (.iconst 0, 1) := o3 hcX11_pairsIn rfl
theorem dX11_pairsIn_1 : decode cX11_pairsIn 1 = .ok (.istore_n 1, 1) := o60 hcX11_pairsIn rfl
theorem dX11_pairsIn_2 : decode cX11_pairsIn 2 = .ok (.iconst 0, 1) := o3 hcX11_pairsIn rfl
theorem dX11_pairsIn_3 : decode cX11_pairsIn 3 = .ok (.istore_n 2, 1) := o61 hcX11_pairsIn rfl
theorem dX11_pairsIn_4 : decode cX11_pairsIn 4 = .ok (.iload_n 2, 1) := o28 hcX11_pairsIn rfl
theorem dX11_pairsIn_5 : decode cX11_pairsIn 5 = .ok (.aload_n 0, 1) := o42 hcX11_pairsIn rfl
theorem dX11_pairsIn_6 : decode cX11_pairsIn 6 = .ok (.getfield 13, 3) := o180 hcX11_pairsIn rfl
theorem dX11_pairsIn_9 : decode cX11_pairsIn 9 = .ok (.if_icmp .ge 43, 3) := o162 hcX11_pairsIn (a := 43) rfl rfl
theorem dX11_pairsIn_12 : decode cX11_pairsIn 12 = .ok (.iconst 0, 1) := o3 hcX11_pairsIn rfl
theorem dX11_pairsIn_13 : decode cX11_pairsIn 13 = .ok (.istore_n 3, 1) := o62 hcX11_pairsIn rfl
theorem dX11_pairsIn_14 : decode cX11_pairsIn 14 = .ok (.iload_n 3, 1) := o29 hcX11_pairsIn rfl
theorem dX11_pairsIn_15 : decode cX11_pairsIn 15 = .ok (.aload_n 0, 1) := o42 hcX11_pairsIn rfl
theorem dX11_pairsIn_16 : decode cX11_pairsIn 16 = .ok (.getfield 7, 3) := o180 hcX11_pairsIn rfl
theorem dX11_pairsIn_19 : decode cX11_pairsIn 19 = .ok (.if_icmp .ge 27, 3) := o162 hcX11_pairsIn (a := 27) rfl rfl
theorem dX11_pairsIn_22 : decode cX11_pairsIn 22 = .ok (.iload_n 1, 1) := o27 hcX11_pairsIn rfl
theorem dX11_pairsIn_23 : decode cX11_pairsIn 23 = .ok (.aload_n 0, 1) := o42 hcX11_pairsIn rfl
theorem dX11_pairsIn_24 : decode cX11_pairsIn 24 = .ok (.iload_n 2, 1) := o28 hcX11_pairsIn rfl
theorem dX11_pairsIn_25 : decode cX11_pairsIn 25 = .ok (.iload_n 3, 1) := o29 hcX11_pairsIn rfl
theorem dX11_pairsIn_26 : decode cX11_pairsIn 26 = .ok (.iconst 0, 1) := o3 hcX11_pairsIn rfl
theorem dX11_pairsIn_27 : decode cX11_pairsIn 27 = .ok (.invokevirtual 343, 3) := o182 hcX11_pairsIn rfl
theorem dX11_pairsIn_30 : decode cX11_pairsIn 30 = .ok (.ifCond .eq 7, 3) := o153 hcX11_pairsIn (a := 7) rfl rfl
theorem dX11_pairsIn_33 : decode cX11_pairsIn 33 = .ok (.iconst 1, 1) := o4 hcX11_pairsIn rfl
theorem dX11_pairsIn_34 : decode cX11_pairsIn 34 = .ok (.goto 4, 3) := o167 hcX11_pairsIn (a := 4) rfl rfl
theorem dX11_pairsIn_37 : decode cX11_pairsIn 37 = .ok (.iconst 0, 1) := o3 hcX11_pairsIn rfl
theorem dX11_pairsIn_38 : decode cX11_pairsIn 38 = .ok (.iadd, 1) := o96 hcX11_pairsIn rfl
theorem dX11_pairsIn_39 : decode cX11_pairsIn 39 = .ok (.istore_n 1, 1) := o60 hcX11_pairsIn rfl
theorem dX11_pairsIn_40 : decode cX11_pairsIn 40 = .ok (.iinc 3 1, 3) := o132 hcX11_pairsIn (b := 1) rfl rfl
theorem dX11_pairsIn_43 : decode cX11_pairsIn 43 = .ok (.goto (-29), 3) := o167 hcX11_pairsIn (a := 65507) rfl rfl
theorem dX11_pairsIn_46 : decode cX11_pairsIn 46 = .ok (.iinc 2 1, 3) := o132 hcX11_pairsIn (b := 1) rfl rfl
theorem dX11_pairsIn_49 : decode cX11_pairsIn 49 = .ok (.goto (-45), 3) := o167 hcX11_pairsIn (a := 65491) rfl rfl
theorem dX11_pairsIn_52 : decode cX11_pairsIn 52 = .ok (.iload_n 1, 1) := o27 hcX11_pairsIn rfl
theorem dX11_pairsIn_53 : decode cX11_pairsIn 53 = .ok (.ireturn, 1) := o172 hcX11_pairsIn rfl
theorem dX11_more_0 : decode cX11_more 0 = .ok (.aload_n 0, 1) := o42 hcX11_more rfl
theorem dX11_more_1 : decode cX11_more 1 = .ok (.iload_n 2, 1) := o28 hcX11_more rfl
theorem dX11_more_2 : decode cX11_more 2 = .ok (.iconst 0, 1) := o3 hcX11_more rfl
theorem dX11_more_3 : decode cX11_more 3 = .ok (.iconst 1, 1) := o4 hcX11_more rfl
theorem dX11_more_4 : decode cX11_more 4 = .ok (.invokevirtual 224, 3) := o182 hcX11_more rfl
theorem dX11_more_7 : decode cX11_more 7 = .ok (.ifCond .ne 5, 3) := o154 hcX11_more (a := 5) rfl rfl
theorem dX11_more_10 : decode cX11_more 10 = .ok (.iconst (-1), 1) := o2 hcX11_more rfl
theorem dX11_more_11 : decode cX11_more 11 = .ok (.ireturn, 1) := o172 hcX11_more rfl
theorem dX11_more_12 : decode cX11_more 12 = .ok (.aload_n 0, 1) := o42 hcX11_more rfl
theorem dX11_more_13 : decode cX11_more 13 = .ok (.iload_n 1, 1) := o27 hcX11_more rfl
theorem dX11_more_14 : decode cX11_more 14 = .ok (.iconst 0, 1) := o3 hcX11_more rfl
theorem dX11_more_15 : decode cX11_more 15 = .ok (.bipush 99, 2) := o16 hcX11_more (a := 99) rfl rfl
theorem dX11_more_17 : decode cX11_more 17 = .ok (.invokevirtual 224, 3) := o182 hcX11_more rfl
theorem dX11_more_20 : decode cX11_more 20 = .ok (.ifCond .ne 6, 3) := o154 hcX11_more (a := 6) rfl rfl
theorem dX11_more_23 : decode cX11_more 23 = .ok (.bipush (-2), 2) := o16 hcX11_more (a := 254) rfl rfl
theorem dX11_more_25 : decode cX11_more 25 = .ok (.ireturn, 1) := o172 hcX11_more rfl
theorem dX11_more_26 : decode cX11_more 26 = .ok (.bipush (-5), 2) := o16 hcX11_more (a := 251) rfl rfl
theorem dX11_more_28 : decode cX11_more 28 = .ok (.istore_n 3, 1) := o62 hcX11_more rfl
theorem dX11_more_29 : decode cX11_more 29 = .ok (.iconst 0, 1) := o3 hcX11_more rfl
theorem dX11_more_30 : decode cX11_more 30 = .ok (.istore 4, 2) := o54 hcX11_more rfl
theorem dX11_more_32 : decode cX11_more 32 = .ok (.iconst 0, 1) := o3 hcX11_more rfl
theorem dX11_more_33 : decode cX11_more 33 = .ok (.istore 5, 2) := o54 hcX11_more rfl
theorem dX11_more_35 : decode cX11_more 35 = .ok (.iload 5, 2) := o21 hcX11_more rfl
theorem dX11_more_37 : decode cX11_more 37 = .ok (.aload_n 0, 1) := o42 hcX11_more rfl
theorem dX11_more_38 : decode cX11_more 38 = .ok (.getfield 7, 3) := o180 hcX11_more rfl
theorem dX11_more_41 : decode cX11_more 41 = .ok (.if_icmp .ge 79, 3) := o162 hcX11_more (a := 79) rfl rfl
theorem dX11_more_44 : decode cX11_more 44 = .ok (.aload_n 0, 1) := o42 hcX11_more rfl
theorem dX11_more_45 : decode cX11_more 45 = .ok (.getfield 23, 3) := o180 hcX11_more rfl
theorem dX11_more_48 : decode cX11_more 48 = .ok (.iload 5, 2) := o21 hcX11_more rfl
theorem dX11_more_50 : decode cX11_more 50 = .ok (.iaload, 1) := o46 hcX11_more rfl
theorem dX11_more_51 : decode cX11_more 51 = .ok (.istore 6, 2) := o54 hcX11_more rfl
theorem dX11_more_53 : decode cX11_more 53 = .ok (.aload_n 0, 1) := o42 hcX11_more rfl
theorem dX11_more_54 : decode cX11_more 54 = .ok (.getfield 23, 3) := o180 hcX11_more rfl
theorem dX11_more_57 : decode cX11_more 57 = .ok (.iload 5, 2) := o21 hcX11_more rfl
theorem dX11_more_59 : decode cX11_more 59 = .ok (.iload 6, 2) := o21 hcX11_more rfl
theorem dX11_more_61 : decode cX11_more 61 = .ok (.iload_n 1, 1) := o27 hcX11_more rfl
theorem dX11_more_62 : decode cX11_more 62 = .ok (.iadd, 1) := o96 hcX11_more rfl
theorem dX11_more_63 : decode cX11_more 63 = .ok (.bipush 99, 2) := o16 hcX11_more (a := 99) rfl rfl
theorem dX11_more_65 : decode cX11_more 65 = .ok (.if_icmp .le 8, 3) := o164 hcX11_more (a := 8) rfl rfl
theorem dX11_more_68 : decode cX11_more 68 = .ok (.bipush 99, 2) := o16 hcX11_more (a := 99) rfl rfl
theorem dX11_more_70 : decode cX11_more 70 = .ok (.goto 7, 3) := o167 hcX11_more (a := 7) rfl rfl
theorem dX11_more_73 : decode cX11_more 73 = .ok (.iload 6, 2) := o21 hcX11_more rfl
theorem dX11_more_75 : decode cX11_more 75 = .ok (.iload_n 1, 1) := o27 hcX11_more rfl
theorem dX11_more_76 : decode cX11_more 76 = .ok (.iadd, 1) := o96 hcX11_more rfl
theorem dX11_more_77 : decode cX11_more 77 = .ok (.iastore, 1) := o79 hcX11_more rfl
theorem dX11_more_78 : decode cX11_more 78 = .ok (.aload_n 0, 1) := o42 hcX11_more rfl
theorem dX11_more_79 : decode cX11_more 79 = .ok (.invokevirtual 349, 3) := o182 hcX11_more rfl
theorem dX11_more_82 : decode cX11_more 82 = .ok (.istore 7, 2) := o54 hcX11_more rfl
theorem dX11_more_84 : decode cX11_more 84 = .ok (.aload_n 0, 1) := o42 hcX11_more rfl
theorem dX11_more_85 : decode cX11_more 85 = .ok (.getfield 23, 3) := o180 hcX11_more rfl
theorem dX11_more_88 : decode cX11_more 88 = .ok (.iload 5, 2) := o21 hcX11_more rfl
theorem dX11_more_90 : decode cX11_more 90 = .ok (.iload 6, 2) := o21 hcX11_more rfl
theorem dX11_more_92 : decode cX11_more 92 = .ok (.iastore, 1) := o79 hcX11_more rfl
theorem dX11_more_93 : decode cX11_more 93 = .ok (.iload_n 3, 1) := o29 hcX11_more rfl
theorem dX11_more_94 : decode cX11_more 94 = .ok (.ifCond .lt 13, 3) := o155 hcX11_more (a := 13) rfl rfl
theorem dX11_more_97 : decode cX11_more 97 = .ok (.iload 7, 2) := o21 hcX11_more rfl
theorem dX11_more_99 : decode cX11_more 99 = .ok (.iload 4, 2) := o21 hcX11_more rfl
theorem dX11_more_101 : decode cX11_more 101 = .ok (.if_icmp .lt 6, 3) := o161 hcX11_more (a := 6) rfl rfl
theorem dX11_more_104 : decode cX11_more 104 = .ok (.goto 10, 3) := o167 hcX11_more (a := 10) rfl rfl
theorem dX11_more_107 : decode cX11_more 107 = .ok (.iload 5, 2) := o21 hcX11_more rfl
theorem dX11_more_109 : decode cX11_more 109 = .ok (.istore_n 3, 1) := o62 hcX11_more rfl
theorem dX11_more_110 : decode cX11_more 110 = .ok (.iload 7, 2) := o21 hcX11_more rfl
theorem dX11_more_112 : decode cX11_more 112 = .ok (.istore 4, 2) := o54 hcX11_more rfl
theorem dX11_more_114 : decode cX11_more 114 = .ok (.iinc 5 1, 3) := o132 hcX11_more (b := 1) rfl rfl
theorem dX11_more_117 : decode cX11_more 117 = .ok (.goto (-82), 3) := o167 hcX11_more (a := 65454) rfl rfl
theorem dX11_more_120 : decode cX11_more 120 = .ok (.iload_n 3, 1) := o29 hcX11_more rfl
theorem dX11_more_121 : decode cX11_more 121 = .ok (.ifCond .lt 7, 3) := o155 hcX11_more (a := 7) rfl rfl
theorem dX11_more_124 : decode cX11_more 124 = .ok (.iload_n 2, 1) := o28 hcX11_more rfl
theorem dX11_more_125 : decode cX11_more 125 = .ok (.ifCond .ne 7, 3) := o154 hcX11_more (a := 7) rfl rfl
theorem dX11_more_128 : decode cX11_more 128 = .ok (.iload_n 3, 1) := o29 hcX11_more rfl
theorem dX11_more_129 : decode cX11_more 129 = .ok (.goto 5, 3) := o167 hcX11_more (a := 5) rfl rfl
theorem dX11_more_132 : decode cX11_more 132 = .ok (.iload 4, 2) := o21 hcX11_more rfl
theorem dX11_more_134 : decode cX11_more 134 = .ok (.ireturn, 1) := o172 hcX11_more rfl
theorem dX11_walksTo_0 : decode cX11_walksTo 0 = .ok (.aload_n 0, 1) := o42 hcX11_walksTo rfl
theorem dX11_walksTo_1 : decode cX11_walksTo 1 = .ok (.iload_n 1, 1) := o27 hcX11_walksTo rfl
theorem dX11_walksTo_2 : decode cX11_walksTo 2 = .ok (.iload_n 2, 1) := o28 hcX11_walksTo rfl
theorem dX11_walksTo_3 : decode cX11_walksTo 3 = .ok (.aload_n 0, 1) := o42 hcX11_walksTo rfl
theorem dX11_walksTo_4 : decode cX11_walksTo 4 = .ok (.getfield 35, 3) := o180 hcX11_walksTo rfl
theorem dX11_walksTo_7 : decode cX11_walksTo 7 = .ok (.iload_n 1, 1) := o27 hcX11_walksTo rfl
theorem dX11_walksTo_8 : decode cX11_walksTo 8 = .ok (.iaload, 1) := o46 hcX11_walksTo rfl
theorem dX11_walksTo_9 : decode cX11_walksTo 9 = .ok (.invokevirtual 308, 3) := o182 hcX11_walksTo rfl
theorem dX11_walksTo_12 : decode cX11_walksTo 12 = .ok (.aload_n 0, 1) := o42 hcX11_walksTo rfl
theorem dX11_walksTo_13 : decode cX11_walksTo 13 = .ok (.iload_n 2, 1) := o28 hcX11_walksTo rfl
theorem dX11_walksTo_14 : decode cX11_walksTo 14 = .ok (.aload_n 0, 1) := o42 hcX11_walksTo rfl
theorem dX11_walksTo_15 : decode cX11_walksTo 15 = .ok (.getfield 32, 3) := o180 hcX11_walksTo rfl
theorem dX11_walksTo_18 : decode cX11_walksTo 18 = .ok (.iload_n 1, 1) := o27 hcX11_walksTo rfl
theorem dX11_walksTo_19 : decode cX11_walksTo 19 = .ok (.iaload, 1) := o46 hcX11_walksTo rfl
theorem dX11_walksTo_20 : decode cX11_walksTo 20 = .ok (.invokevirtual 323, 3) := o182 hcX11_walksTo rfl
theorem dX11_walksTo_23 : decode cX11_walksTo 23 = .ok (.imul, 1) := o104 hcX11_walksTo rfl
theorem dX11_walksTo_24 : decode cX11_walksTo 24 = .ok (.ireturn, 1) := o172 hcX11_walksTo rfl
theorem dX11_isLetIn_0 : decode cX11_isLetIn 0 = .ok (.aload_n 0, 1) := o42 hcX11_isLetIn rfl
theorem dX11_isLetIn_1 : decode cX11_isLetIn 1 = .ok (.iload_n 1, 1) := o27 hcX11_isLetIn rfl
theorem dX11_isLetIn_2 : decode cX11_isLetIn 2 = .ok (.iload_n 3, 1) := o29 hcX11_isLetIn rfl
theorem dX11_isLetIn_3 : decode cX11_isLetIn 3 = .ok (.invokevirtual 336, 3) := o182 hcX11_isLetIn rfl
theorem dX11_isLetIn_6 : decode cX11_isLetIn 6 = .ok (.iload_n 3, 1) := o29 hcX11_isLetIn rfl
theorem dX11_isLetIn_7 : decode cX11_isLetIn 7 = .ok (.aload_n 0, 1) := o42 hcX11_isLetIn rfl
theorem dX11_isLetIn_8 : decode cX11_isLetIn 8 = .ok (.invokevirtual 330, 3) := o182 hcX11_isLetIn rfl
theorem dX11_isLetIn_11 : decode cX11_isLetIn 11 = .ok (.if_icmp .ge 15, 3) := o162 hcX11_isLetIn (a := 15) rfl rfl
theorem dX11_isLetIn_14 : decode cX11_isLetIn 14 = .ok (.aload_n 0, 1) := o42 hcX11_isLetIn rfl
theorem dX11_isLetIn_15 : decode cX11_isLetIn 15 = .ok (.iload_n 2, 1) := o28 hcX11_isLetIn rfl
theorem dX11_isLetIn_16 : decode cX11_isLetIn 16 = .ok (.invokevirtual 333, 3) := o182 hcX11_isLetIn rfl
theorem dX11_isLetIn_19 : decode cX11_isLetIn 19 = .ok (.ifCond .eq 7, 3) := o153 hcX11_isLetIn (a := 7) rfl rfl
theorem dX11_isLetIn_22 : decode cX11_isLetIn 22 = .ok (.iconst 1, 1) := o4 hcX11_isLetIn rfl
theorem dX11_isLetIn_23 : decode cX11_isLetIn 23 = .ok (.goto 4, 3) := o167 hcX11_isLetIn (a := 4) rfl rfl
theorem dX11_isLetIn_26 : decode cX11_isLetIn 26 = .ok (.iconst 0, 1) := o3 hcX11_isLetIn rfl
theorem dX11_isLetIn_27 : decode cX11_isLetIn 27 = .ok (.ireturn, 1) := o172 hcX11_isLetIn rfl
theorem dX11_share_0 : decode cX11_share 0 = .ok (.aload_n 0, 1) := o42 hcX11_share rfl
theorem dX11_share_1 : decode cX11_share 1 = .ok (.iload_n 1, 1) := o27 hcX11_share rfl
theorem dX11_share_2 : decode cX11_share 2 = .ok (.invokevirtual 236, 3) := o182 hcX11_share rfl
theorem dX11_share_5 : decode cX11_share 5 = .ok (.ifCond .eq 30, 3) := o153 hcX11_share (a := 30) rfl rfl
theorem dX11_share_8 : decode cX11_share 8 = .ok (.aload_n 0, 1) := o42 hcX11_share rfl
theorem dX11_share_9 : decode cX11_share 9 = .ok (.iload_n 2, 1) := o28 hcX11_share rfl
theorem dX11_share_10 : decode cX11_share 10 = .ok (.invokevirtual 236, 3) := o182 hcX11_share rfl
theorem dX11_share_13 : decode cX11_share 13 = .ok (.ifCond .eq 22, 3) := o153 hcX11_share (a := 22) rfl rfl
theorem dX11_share_16 : decode cX11_share 16 = .ok (.aload_n 0, 1) := o42 hcX11_share rfl
theorem dX11_share_17 : decode cX11_share 17 = .ok (.iload_n 3, 1) := o29 hcX11_share rfl
theorem dX11_share_18 : decode cX11_share 18 = .ok (.invokevirtual 232, 3) := o182 hcX11_share rfl
theorem dX11_share_21 : decode cX11_share 21 = .ok (.ifCond .eq 14, 3) := o153 hcX11_share (a := 14) rfl rfl
theorem dX11_share_24 : decode cX11_share 24 = .ok (.aload_n 0, 1) := o42 hcX11_share rfl
theorem dX11_share_25 : decode cX11_share 25 = .ok (.iload 4, 2) := o21 hcX11_share rfl
theorem dX11_share_27 : decode cX11_share 27 = .ok (.iconst 0, 1) := o3 hcX11_share rfl
theorem dX11_share_28 : decode cX11_share 28 = .ok (.iconst 1, 1) := o4 hcX11_share rfl
theorem dX11_share_29 : decode cX11_share 29 = .ok (.invokevirtual 224, 3) := o182 hcX11_share rfl
theorem dX11_share_32 : decode cX11_share 32 = .ok (.ifCond .ne 5, 3) := o154 hcX11_share (a := 5) rfl rfl
theorem dX11_share_35 : decode cX11_share 35 = .ok (.iconst (-1), 1) := o2 hcX11_share rfl
theorem dX11_share_36 : decode cX11_share 36 = .ok (.ireturn, 1) := o172 hcX11_share rfl
theorem dX11_share_37 : decode cX11_share 37 = .ok (.iload_n 1, 1) := o27 hcX11_share rfl
theorem dX11_share_38 : decode cX11_share 38 = .ok (.iload_n 2, 1) := o28 hcX11_share rfl
theorem dX11_share_39 : decode cX11_share 39 = .ok (.if_icmp .ne 6, 3) := o160 hcX11_share (a := 6) rfl rfl
theorem dX11_share_42 : decode cX11_share 42 = .ok (.bipush (-2), 2) := o16 hcX11_share (a := 254) rfl rfl
theorem dX11_share_44 : decode cX11_share 44 = .ok (.ireturn, 1) := o172 hcX11_share rfl
theorem dX11_share_45 : decode cX11_share 45 = .ok (.aload_n 0, 1) := o42 hcX11_share rfl
theorem dX11_share_46 : decode cX11_share 46 = .ok (.iload_n 1, 1) := o27 hcX11_share rfl
theorem dX11_share_47 : decode cX11_share 47 = .ok (.iload_n 3, 1) := o29 hcX11_share rfl
theorem dX11_share_48 : decode cX11_share 48 = .ok (.invokevirtual 352, 3) := o182 hcX11_share rfl
theorem dX11_share_51 : decode cX11_share 51 = .ok (.istore 5, 2) := o54 hcX11_share rfl
theorem dX11_share_53 : decode cX11_share 53 = .ok (.aload_n 0, 1) := o42 hcX11_share rfl
theorem dX11_share_54 : decode cX11_share 54 = .ok (.iload_n 2, 1) := o28 hcX11_share rfl
theorem dX11_share_55 : decode cX11_share 55 = .ok (.iload_n 3, 1) := o29 hcX11_share rfl
theorem dX11_share_56 : decode cX11_share 56 = .ok (.invokevirtual 352, 3) := o182 hcX11_share rfl
theorem dX11_share_59 : decode cX11_share 59 = .ok (.istore 6, 2) := o54 hcX11_share rfl
theorem dX11_share_61 : decode cX11_share 61 = .ok (.iload 5, 2) := o21 hcX11_share rfl
theorem dX11_share_63 : decode cX11_share 63 = .ok (.iload 6, 2) := o21 hcX11_share rfl
theorem dX11_share_65 : decode cX11_share 65 = .ok (.if_icmp .le 8, 3) := o164 hcX11_share (a := 8) rfl rfl
theorem dX11_share_68 : decode cX11_share 68 = .ok (.iload 5, 2) := o21 hcX11_share rfl
theorem dX11_share_70 : decode cX11_share 70 = .ok (.goto 5, 3) := o167 hcX11_share (a := 5) rfl rfl
theorem dX11_share_73 : decode cX11_share 73 = .ok (.iload 6, 2) := o21 hcX11_share rfl
theorem dX11_share_75 : decode cX11_share 75 = .ok (.aload_n 0, 1) := o42 hcX11_share rfl
theorem dX11_share_76 : decode cX11_share 76 = .ok (.aload_n 0, 1) := o42 hcX11_share rfl
theorem dX11_share_77 : decode cX11_share 77 = .ok (.iload_n 1, 1) := o27 hcX11_share rfl
theorem dX11_share_78 : decode cX11_share 78 = .ok (.iload_n 3, 1) := o29 hcX11_share rfl
theorem dX11_share_79 : decode cX11_share 79 = .ok (.aload_n 0, 1) := o42 hcX11_share rfl
theorem dX11_share_80 : decode cX11_share 80 = .ok (.getfield 35, 3) := o180 hcX11_share rfl
theorem dX11_share_83 : decode cX11_share 83 = .ok (.iload_n 1, 1) := o27 hcX11_share rfl
theorem dX11_share_84 : decode cX11_share 84 = .ok (.iaload, 1) := o46 hcX11_share rfl
theorem dX11_share_85 : decode cX11_share 85 = .ok (.invokevirtual 304, 3) := o182 hcX11_share rfl
theorem dX11_share_88 : decode cX11_share 88 = .ok (.aload_n 0, 1) := o42 hcX11_share rfl
theorem dX11_share_89 : decode cX11_share 89 = .ok (.getfield 23, 3) := o180 hcX11_share rfl
theorem dX11_share_92 : decode cX11_share 92 = .ok (.iload_n 3, 1) := o29 hcX11_share rfl
theorem dX11_share_93 : decode cX11_share 93 = .ok (.iaload, 1) := o46 hcX11_share rfl
theorem dX11_share_94 : decode cX11_share 94 = .ok (.imul, 1) := o104 hcX11_share rfl
theorem dX11_share_95 : decode cX11_share 95 = .ok (.aload_n 0, 1) := o42 hcX11_share rfl
theorem dX11_share_96 : decode cX11_share 96 = .ok (.getfield 38, 3) := o180 hcX11_share rfl
theorem dX11_share_99 : decode cX11_share 99 = .ok (.iload_n 1, 1) := o27 hcX11_share rfl
theorem dX11_share_100 : decode cX11_share 100 = .ok (.iaload, 1) := o46 hcX11_share rfl
theorem dX11_share_101 : decode cX11_share 101 = .ok (.aload_n 0, 1) := o42 hcX11_share rfl
theorem dX11_share_102 : decode cX11_share 102 = .ok (.getfield 38, 3) := o180 hcX11_share rfl
theorem dX11_share_105 : decode cX11_share 105 = .ok (.iload_n 2, 1) := o28 hcX11_share rfl
theorem dX11_share_106 : decode cX11_share 106 = .ok (.iaload, 1) := o46 hcX11_share rfl
theorem dX11_share_107 : decode cX11_share 107 = .ok (.iadd, 1) := o96 hcX11_share rfl
theorem dX11_share_108 : decode cX11_share 108 = .ok (.invokevirtual 327, 3) := o182 hcX11_share rfl
theorem dX11_share_111 : decode cX11_share 111 = .ok (.iadd, 1) := o96 hcX11_share rfl
theorem dX11_share_112 : decode cX11_share 112 = .ok (.istore 7, 2) := o54 hcX11_share rfl
theorem dX11_share_114 : decode cX11_share 114 = .ok (.iload 4, 2) := o21 hcX11_share rfl
theorem dX11_share_116 : decode cX11_share 116 = .ok (.ifCond .ne 6, 3) := o154 hcX11_share (a := 6) rfl rfl
theorem dX11_share_119 : decode cX11_share 119 = .ok (.iload 7, 2) := o21 hcX11_share rfl
theorem dX11_share_121 : decode cX11_share 121 = .ok (.ireturn, 1) := o172 hcX11_share rfl
theorem dX11_share_122 : decode cX11_share 122 = .ok (.aload_n 0, 1) := o42 hcX11_share rfl
theorem dX11_share_123 : decode cX11_share 123 = .ok (.iload_n 1, 1) := o27 hcX11_share rfl
theorem dX11_share_124 : decode cX11_share 124 = .ok (.iload_n 3, 1) := o29 hcX11_share rfl
theorem dX11_share_125 : decode cX11_share 125 = .ok (.iload 7, 2) := o21 hcX11_share rfl
theorem dX11_share_127 : decode cX11_share 127 = .ok (.invokevirtual 355, 3) := o182 hcX11_share rfl
theorem dX11_share_130 : decode cX11_share 130 = .ok (.ifCond .eq 7, 3) := o153 hcX11_share (a := 7) rfl rfl
theorem dX11_share_133 : decode cX11_share 133 = .ok (.iconst 1, 1) := o4 hcX11_share rfl
theorem dX11_share_134 : decode cX11_share 134 = .ok (.goto 4, 3) := o167 hcX11_share (a := 4) rfl rfl
theorem dX11_share_137 : decode cX11_share 137 = .ok (.iconst 0, 1) := o3 hcX11_share rfl
theorem dX11_share_138 : decode cX11_share 138 = .ok (.istore 8, 2) := o54 hcX11_share rfl
theorem dX11_share_140 : decode cX11_share 140 = .ok (.aload_n 0, 1) := o42 hcX11_share rfl
theorem dX11_share_141 : decode cX11_share 141 = .ok (.iload_n 2, 1) := o28 hcX11_share rfl
theorem dX11_share_142 : decode cX11_share 142 = .ok (.iload_n 3, 1) := o29 hcX11_share rfl
theorem dX11_share_143 : decode cX11_share 143 = .ok (.iload 7, 2) := o21 hcX11_share rfl
theorem dX11_share_145 : decode cX11_share 145 = .ok (.invokevirtual 355, 3) := o182 hcX11_share rfl
theorem dX11_share_148 : decode cX11_share 148 = .ok (.ifCond .eq 10, 3) := o153 hcX11_share (a := 10) rfl rfl
theorem dX11_share_151 : decode cX11_share 151 = .ok (.iload 8, 2) := o21 hcX11_share rfl
theorem dX11_share_153 : decode cX11_share 153 = .ok (.iconst 2, 1) := o5 hcX11_share rfl
theorem dX11_share_154 : decode cX11_share 154 = .ok (.iadd, 1) := o96 hcX11_share rfl
theorem dX11_share_155 : decode cX11_share 155 = .ok (.goto 5, 3) := o167 hcX11_share (a := 5) rfl rfl
theorem dX11_share_158 : decode cX11_share 158 = .ok (.iload 8, 2) := o21 hcX11_share rfl
theorem dX11_share_160 : decode cX11_share 160 = .ok (.ireturn, 1) := o172 hcX11_share rfl
theorem dX11_watch_0 : decode cX11_watch 0 = .ok (.iload_n 1, 1) := o27 hcX11_watch rfl
theorem dX11_watch_1 : decode cX11_watch 1 = .ok (.iconst (-1), 1) := o2 hcX11_watch rfl
theorem dX11_watch_2 : decode cX11_watch 2 = .ok (.if_icmp .ne 10, 3) := o160 hcX11_watch (a := 10) rfl rfl
theorem dX11_watch_5 : decode cX11_watch 5 = .ok (.aload_n 0, 1) := o42 hcX11_watch rfl
theorem dX11_watch_6 : decode cX11_watch 6 = .ok (.iconst 0, 1) := o3 hcX11_watch rfl
theorem dX11_watch_7 : decode cX11_watch 7 = .ok (.putfield 126, 3) := o181 hcX11_watch rfl
theorem dX11_watch_10 : decode cX11_watch 10 = .ok (.iconst 0, 1) := o3 hcX11_watch rfl
theorem dX11_watch_11 : decode cX11_watch 11 = .ok (.ireturn, 1) := o172 hcX11_watch rfl
theorem dX11_watch_12 : decode cX11_watch 12 = .ok (.aload_n 0, 1) := o42 hcX11_watch rfl
theorem dX11_watch_13 : decode cX11_watch 13 = .ok (.iload_n 1, 1) := o27 hcX11_watch rfl
theorem dX11_watch_14 : decode cX11_watch 14 = .ok (.invokevirtual 232, 3) := o182 hcX11_watch rfl
theorem dX11_watch_17 : decode cX11_watch 17 = .ok (.ifCond .ne 5, 3) := o154 hcX11_watch (a := 5) rfl rfl
theorem dX11_watch_20 : decode cX11_watch 20 = .ok (.iconst (-1), 1) := o2 hcX11_watch rfl
theorem dX11_watch_21 : decode cX11_watch 21 = .ok (.ireturn, 1) := o172 hcX11_watch rfl
theorem dX11_watch_22 : decode cX11_watch 22 = .ok (.aload_n 0, 1) := o42 hcX11_watch rfl
theorem dX11_watch_23 : decode cX11_watch 23 = .ok (.getfield 126, 3) := o180 hcX11_watch rfl
theorem dX11_watch_26 : decode cX11_watch 26 = .ok (.bipush 8, 2) := o16 hcX11_watch (a := 8) rfl rfl
theorem dX11_watch_28 : decode cX11_watch 28 = .ok (.if_icmp .ne 6, 3) := o160 hcX11_watch (a := 6) rfl rfl
theorem dX11_watch_31 : decode cX11_watch 31 = .ok (.bipush (-4), 2) := o16 hcX11_watch (a := 252) rfl rfl
theorem dX11_watch_33 : decode cX11_watch 33 = .ok (.ireturn, 1) := o172 hcX11_watch rfl
theorem dX11_watch_34 : decode cX11_watch 34 = .ok (.aload_n 0, 1) := o42 hcX11_watch rfl
theorem dX11_watch_35 : decode cX11_watch 35 = .ok (.getfield 129, 3) := o180 hcX11_watch rfl
theorem dX11_watch_38 : decode cX11_watch 38 = .ok (.aload_n 0, 1) := o42 hcX11_watch rfl
theorem dX11_watch_39 : decode cX11_watch 39 = .ok (.getfield 126, 3) := o180 hcX11_watch rfl
theorem dX11_watch_42 : decode cX11_watch 42 = .ok (.iload_n 1, 1) := o27 hcX11_watch rfl
theorem dX11_watch_43 : decode cX11_watch 43 = .ok (.iastore, 1) := o79 hcX11_watch rfl
theorem dX11_watch_44 : decode cX11_watch 44 = .ok (.aload_n 0, 1) := o42 hcX11_watch rfl
theorem dX11_watch_45 : decode cX11_watch 45 = .ok (.getfield 132, 3) := o180 hcX11_watch rfl
theorem dX11_watch_48 : decode cX11_watch 48 = .ok (.aload_n 0, 1) := o42 hcX11_watch rfl
theorem dX11_watch_49 : decode cX11_watch 49 = .ok (.getfield 126, 3) := o180 hcX11_watch rfl
theorem dX11_watch_52 : decode cX11_watch 52 = .ok (.iload_n 2, 1) := o28 hcX11_watch rfl
theorem dX11_watch_53 : decode cX11_watch 53 = .ok (.bastore, 1) := o84 hcX11_watch rfl
theorem dX11_watch_54 : decode cX11_watch 54 = .ok (.aload_n 0, 1) := o42 hcX11_watch rfl
theorem dX11_watch_55 : decode cX11_watch 55 = .ok (.dup, 1) := o89 hcX11_watch rfl
theorem dX11_watch_56 : decode cX11_watch 56 = .ok (.getfield 126, 3) := o180 hcX11_watch rfl
theorem dX11_watch_59 : decode cX11_watch 59 = .ok (.iconst 1, 1) := o4 hcX11_watch rfl
theorem dX11_watch_60 : decode cX11_watch 60 = .ok (.iadd, 1) := o96 hcX11_watch rfl
theorem dX11_watch_61 : decode cX11_watch 61 = .ok (.putfield 126, 3) := o181 hcX11_watch rfl
theorem dX11_watch_64 : decode cX11_watch 64 = .ok (.aload_n 0, 1) := o42 hcX11_watch rfl
theorem dX11_watch_65 : decode cX11_watch 65 = .ok (.getfield 126, 3) := o180 hcX11_watch rfl
theorem dX11_watch_68 : decode cX11_watch 68 = .ok (.ireturn, 1) := o172 hcX11_watch rfl
theorem dX11_suspects_0 : decode cX11_suspects 0 = .ok (.iconst 0, 1) := o3 hcX11_suspects rfl
theorem dX11_suspects_1 : decode cX11_suspects 1 = .ok (.istore_n 1, 1) := o60 hcX11_suspects rfl
theorem dX11_suspects_2 : decode cX11_suspects 2 = .ok (.iconst 0, 1) := o3 hcX11_suspects rfl
theorem dX11_suspects_3 : decode cX11_suspects 3 = .ok (.istore_n 2, 1) := o61 hcX11_suspects rfl
theorem dX11_suspects_4 : decode cX11_suspects 4 = .ok (.iload_n 2, 1) := o28 hcX11_suspects rfl
theorem dX11_suspects_5 : decode cX11_suspects 5 = .ok (.aload_n 0, 1) := o42 hcX11_suspects rfl
theorem dX11_suspects_6 : decode cX11_suspects 6 = .ok (.getfield 13, 3) := o180 hcX11_suspects rfl
theorem dX11_suspects_9 : decode cX11_suspects 9 = .ok (.if_icmp .ge 76, 3) := o162 hcX11_suspects (a := 76) rfl rfl
theorem dX11_suspects_12 : decode cX11_suspects 12 = .ok (.iconst 1, 1) := o4 hcX11_suspects rfl
theorem dX11_suspects_13 : decode cX11_suspects 13 = .ok (.istore_n 3, 1) := o62 hcX11_suspects rfl
theorem dX11_suspects_14 : decode cX11_suspects 14 = .ok (.iconst 0, 1) := o3 hcX11_suspects rfl
theorem dX11_suspects_15 : decode cX11_suspects 15 = .ok (.istore 4, 2) := o54 hcX11_suspects rfl
theorem dX11_suspects_17 : decode cX11_suspects 17 = .ok (.iload 4, 2) := o21 hcX11_suspects rfl
theorem dX11_suspects_19 : decode cX11_suspects 19 = .ok (.aload_n 0, 1) := o42 hcX11_suspects rfl
theorem dX11_suspects_20 : decode cX11_suspects 20 = .ok (.getfield 126, 3) := o180 hcX11_suspects rfl
theorem dX11_suspects_23 : decode cX11_suspects 23 = .ok (.if_icmp .ge 42, 3) := o162 hcX11_suspects (a := 42) rfl rfl
theorem dX11_suspects_26 : decode cX11_suspects 26 = .ok (.iload_n 3, 1) := o29 hcX11_suspects rfl
theorem dX11_suspects_27 : decode cX11_suspects 27 = .ok (.ifCond .eq 38, 3) := o153 hcX11_suspects (a := 38) rfl rfl
theorem dX11_suspects_30 : decode cX11_suspects 30 = .ok (.aload_n 0, 1) := o42 hcX11_suspects rfl
theorem dX11_suspects_31 : decode cX11_suspects 31 = .ok (.iload_n 2, 1) := o28 hcX11_suspects rfl
theorem dX11_suspects_32 : decode cX11_suspects 32 = .ok (.aload_n 0, 1) := o42 hcX11_suspects rfl
theorem dX11_suspects_33 : decode cX11_suspects 33 = .ok (.getfield 129, 3) := o180 hcX11_suspects rfl
theorem dX11_suspects_36 : decode cX11_suspects 36 = .ok (.iload 4, 2) := o21 hcX11_suspects rfl
theorem dX11_suspects_38 : decode cX11_suspects 38 = .ok (.iaload, 1) := o46 hcX11_suspects rfl
theorem dX11_suspects_39 : decode cX11_suspects 39 = .ok (.iconst 0, 1) := o3 hcX11_suspects rfl
theorem dX11_suspects_40 : decode cX11_suspects 40 = .ok (.invokevirtual 343, 3) := o182 hcX11_suspects rfl
theorem dX11_suspects_43 : decode cX11_suspects 43 = .ok (.aload_n 0, 1) := o42 hcX11_suspects rfl
theorem dX11_suspects_44 : decode cX11_suspects 44 = .ok (.getfield 132, 3) := o180 hcX11_suspects rfl
theorem dX11_suspects_47 : decode cX11_suspects 47 = .ok (.iload 4, 2) := o21 hcX11_suspects rfl
theorem dX11_suspects_49 : decode cX11_suspects 49 = .ok (.baload, 1) := o51 hcX11_suspects rfl
theorem dX11_suspects_50 : decode cX11_suspects 50 = .ok (.if_icmp .ne 7, 3) := o160 hcX11_suspects (a := 7) rfl rfl
theorem dX11_suspects_53 : decode cX11_suspects 53 = .ok (.iconst 1, 1) := o4 hcX11_suspects rfl
theorem dX11_suspects_54 : decode cX11_suspects 54 = .ok (.goto 4, 3) := o167 hcX11_suspects (a := 4) rfl rfl
theorem dX11_suspects_57 : decode cX11_suspects 57 = .ok (.iconst 0, 1) := o3 hcX11_suspects rfl
theorem dX11_suspects_58 : decode cX11_suspects 58 = .ok (.istore_n 3, 1) := o62 hcX11_suspects rfl
theorem dX11_suspects_59 : decode cX11_suspects 59 = .ok (.iinc 4 1, 3) := o132 hcX11_suspects (b := 1) rfl rfl
theorem dX11_suspects_62 : decode cX11_suspects 62 = .ok (.goto (-45), 3) := o167 hcX11_suspects (a := 65491) rfl rfl
theorem dX11_suspects_65 : decode cX11_suspects 65 = .ok (.iload_n 1, 1) := o27 hcX11_suspects rfl
theorem dX11_suspects_66 : decode cX11_suspects 66 = .ok (.iload_n 3, 1) := o29 hcX11_suspects rfl
theorem dX11_suspects_67 : decode cX11_suspects 67 = .ok (.ifCond .eq 9, 3) := o153 hcX11_suspects (a := 9) rfl rfl
theorem dX11_suspects_70 : decode cX11_suspects 70 = .ok (.iconst 1, 1) := o4 hcX11_suspects rfl
theorem dX11_suspects_71 : decode cX11_suspects 71 = .ok (.iload_n 2, 1) := o28 hcX11_suspects rfl
theorem dX11_suspects_72 : decode cX11_suspects 72 = .ok (.ishl, 1) := o120 hcX11_suspects rfl
theorem dX11_suspects_73 : decode cX11_suspects 73 = .ok (.goto 4, 3) := o167 hcX11_suspects (a := 4) rfl rfl
theorem dX11_suspects_76 : decode cX11_suspects 76 = .ok (.iconst 0, 1) := o3 hcX11_suspects rfl
theorem dX11_suspects_77 : decode cX11_suspects 77 = .ok (.ior, 1) := o128 hcX11_suspects rfl
theorem dX11_suspects_78 : decode cX11_suspects 78 = .ok (.istore_n 1, 1) := o60 hcX11_suspects rfl
theorem dX11_suspects_79 : decode cX11_suspects 79 = .ok (.iinc 2 1, 3) := o132 hcX11_suspects (b := 1) rfl rfl
theorem dX11_suspects_82 : decode cX11_suspects 82 = .ok (.goto (-78), 3) := o167 hcX11_suspects (a := 65458) rfl rfl
theorem dX11_suspects_85 : decode cX11_suspects 85 = .ok (.iload_n 1, 1) := o27 hcX11_suspects rfl
theorem dX11_suspects_86 : decode cX11_suspects 86 = .ok (.ireturn, 1) := o172 hcX11_suspects rfl
theorem dX11_next_0 : decode cX11_next 0 = .ok (.aload_n 0, 1) := o42 hcX11_next rfl
theorem dX11_next_1 : decode cX11_next 1 = .ok (.invokevirtual 358, 3) := o182 hcX11_next rfl
theorem dX11_next_4 : decode cX11_next 4 = .ok (.istore_n 1, 1) := o60 hcX11_next rfl
theorem dX11_next_5 : decode cX11_next 5 = .ok (.bipush (-5), 2) := o16 hcX11_next (a := 251) rfl rfl
theorem dX11_next_7 : decode cX11_next 7 = .ok (.istore_n 2, 1) := o61 hcX11_next rfl
theorem dX11_next_8 : decode cX11_next 8 = .ok (.iconst 0, 1) := o3 hcX11_next rfl
theorem dX11_next_9 : decode cX11_next 9 = .ok (.istore_n 3, 1) := o62 hcX11_next rfl
theorem dX11_next_10 : decode cX11_next 10 = .ok (.iconst 0, 1) := o3 hcX11_next rfl
theorem dX11_next_11 : decode cX11_next 11 = .ok (.istore 4, 2) := o54 hcX11_next rfl
theorem dX11_next_13 : decode cX11_next 13 = .ok (.iload 4, 2) := o21 hcX11_next rfl
theorem dX11_next_15 : decode cX11_next 15 = .ok (.aload_n 0, 1) := o42 hcX11_next rfl
theorem dX11_next_16 : decode cX11_next 16 = .ok (.getfield 7, 3) := o180 hcX11_next rfl
theorem dX11_next_19 : decode cX11_next 19 = .ok (.if_icmp .ge 104, 3) := o162 hcX11_next (a := 104) rfl rfl
theorem dX11_next_22 : decode cX11_next 22 = .ok (.iload_n 1, 1) := o27 hcX11_next rfl
theorem dX11_next_23 : decode cX11_next 23 = .ok (.ifCond .eq 100, 3) := o153 hcX11_next (a := 100) rfl rfl
theorem dX11_next_26 : decode cX11_next 26 = .ok (.iconst 0, 1) := o3 hcX11_next rfl
theorem dX11_next_27 : decode cX11_next 27 = .ok (.istore 5, 2) := o54 hcX11_next rfl
theorem dX11_next_29 : decode cX11_next 29 = .ok (.iconst 0, 1) := o3 hcX11_next rfl
theorem dX11_next_30 : decode cX11_next 30 = .ok (.istore 6, 2) := o54 hcX11_next rfl
theorem dX11_next_32 : decode cX11_next 32 = .ok (.iload 6, 2) := o21 hcX11_next rfl
theorem dX11_next_34 : decode cX11_next 34 = .ok (.aload_n 0, 1) := o42 hcX11_next rfl
theorem dX11_next_35 : decode cX11_next 35 = .ok (.getfield 13, 3) := o180 hcX11_next rfl
theorem dX11_next_38 : decode cX11_next 38 = .ok (.if_icmp .ge 45, 3) := o162 hcX11_next (a := 45) rfl rfl
theorem dX11_next_41 : decode cX11_next 41 = .ok (.iload 5, 2) := o21 hcX11_next rfl
theorem dX11_next_43 : decode cX11_next 43 = .ok (.aload_n 0, 1) := o42 hcX11_next rfl
theorem dX11_next_44 : decode cX11_next 44 = .ok (.iload_n 1, 1) := o27 hcX11_next rfl
theorem dX11_next_45 : decode cX11_next 45 = .ok (.iload 6, 2) := o21 hcX11_next rfl
theorem dX11_next_47 : decode cX11_next 47 = .ok (.invokevirtual 314, 3) := o182 hcX11_next rfl
theorem dX11_next_50 : decode cX11_next 50 = .ok (.ifCond .ne 7, 3) := o154 hcX11_next (a := 7) rfl rfl
theorem dX11_next_53 : decode cX11_next 53 = .ok (.iconst 0, 1) := o3 hcX11_next rfl
theorem dX11_next_54 : decode cX11_next 54 = .ok (.goto 20, 3) := o167 hcX11_next (a := 20) rfl rfl
theorem dX11_next_57 : decode cX11_next 57 = .ok (.aload_n 0, 1) := o42 hcX11_next rfl
theorem dX11_next_58 : decode cX11_next 58 = .ok (.iload 6, 2) := o21 hcX11_next rfl
theorem dX11_next_60 : decode cX11_next 60 = .ok (.iload 4, 2) := o21 hcX11_next rfl
theorem dX11_next_62 : decode cX11_next 62 = .ok (.iconst 0, 1) := o3 hcX11_next rfl
theorem dX11_next_63 : decode cX11_next 63 = .ok (.invokevirtual 343, 3) := o182 hcX11_next rfl
theorem dX11_next_66 : decode cX11_next 66 = .ok (.ifCond .eq 7, 3) := o153 hcX11_next (a := 7) rfl rfl
theorem dX11_next_69 : decode cX11_next 69 = .ok (.iconst 1, 1) := o4 hcX11_next rfl
theorem dX11_next_70 : decode cX11_next 70 = .ok (.goto 4, 3) := o167 hcX11_next (a := 4) rfl rfl
theorem dX11_next_73 : decode cX11_next 73 = .ok (.iconst (-1), 1) := o2 hcX11_next rfl
theorem dX11_next_74 : decode cX11_next 74 = .ok (.iadd, 1) := o96 hcX11_next rfl
theorem dX11_next_75 : decode cX11_next 75 = .ok (.istore 5, 2) := o54 hcX11_next rfl
theorem dX11_next_77 : decode cX11_next 77 = .ok (.iinc 6 1, 3) := o132 hcX11_next (b := 1) rfl rfl
theorem dX11_next_80 : decode cX11_next 80 = .ok (.goto (-48), 3) := o167 hcX11_next (a := 65488) rfl rfl
theorem dX11_next_83 : decode cX11_next 83 = .ok (.iload 5, 2) := o21 hcX11_next rfl
theorem dX11_next_85 : decode cX11_next 85 = .ok (.ifCond .ge 9, 3) := o156 hcX11_next (a := 9) rfl rfl
theorem dX11_next_88 : decode cX11_next 88 = .ok (.iload 5, 2) := o21 hcX11_next rfl
theorem dX11_next_90 : decode cX11_next 90 = .ok (.ineg, 1) := o116 hcX11_next rfl
theorem dX11_next_91 : decode cX11_next 91 = .ok (.goto 5, 3) := o167 hcX11_next (a := 5) rfl rfl
theorem dX11_next_94 : decode cX11_next 94 = .ok (.iload 5, 2) := o21 hcX11_next rfl
theorem dX11_next_96 : decode cX11_next 96 = .ok (.istore 5, 2) := o54 hcX11_next rfl
theorem dX11_next_98 : decode cX11_next 98 = .ok (.iload_n 2, 1) := o28 hcX11_next rfl
theorem dX11_next_99 : decode cX11_next 99 = .ok (.ifCond .lt 12, 3) := o155 hcX11_next (a := 12) rfl rfl
theorem dX11_next_102 : decode cX11_next 102 = .ok (.iload 5, 2) := o21 hcX11_next rfl
theorem dX11_next_104 : decode cX11_next 104 = .ok (.iload_n 3, 1) := o29 hcX11_next rfl
theorem dX11_next_105 : decode cX11_next 105 = .ok (.if_icmp .lt 6, 3) := o161 hcX11_next (a := 6) rfl rfl
theorem dX11_next_108 : decode cX11_next 108 = .ok (.goto 9, 3) := o167 hcX11_next (a := 9) rfl rfl
theorem dX11_next_111 : decode cX11_next 111 = .ok (.iload 4, 2) := o21 hcX11_next rfl
theorem dX11_next_113 : decode cX11_next 113 = .ok (.istore_n 2, 1) := o61 hcX11_next rfl
theorem dX11_next_114 : decode cX11_next 114 = .ok (.iload 5, 2) := o21 hcX11_next rfl
theorem dX11_next_116 : decode cX11_next 116 = .ok (.istore_n 3, 1) := o62 hcX11_next rfl
theorem dX11_next_117 : decode cX11_next 117 = .ok (.iinc 4 1, 3) := o132 hcX11_next (b := 1) rfl rfl
theorem dX11_next_120 : decode cX11_next 120 = .ok (.goto (-107), 3) := o167 hcX11_next (a := 65429) rfl rfl
theorem dX11_next_123 : decode cX11_next 123 = .ok (.iload_n 2, 1) := o28 hcX11_next rfl
theorem dX11_next_124 : decode cX11_next 124 = .ok (.ireturn, 1) := o172 hcX11_next rfl
theorem dX11_when_0 : decode cX11_when 0 = .ok (.aload_n 0, 1) := o42 hcX11_when rfl
theorem dX11_when_1 : decode cX11_when 1 = .ok (.iload_n 1, 1) := o27 hcX11_when rfl
theorem dX11_when_2 : decode cX11_when 2 = .ok (.invokevirtual 236, 3) := o182 hcX11_when rfl
theorem dX11_when_5 : decode cX11_when 5 = .ok (.ifCond .eq 11, 3) := o153 hcX11_when (a := 11) rfl rfl
theorem dX11_when_8 : decode cX11_when 8 = .ok (.aload_n 0, 1) := o42 hcX11_when rfl
theorem dX11_when_9 : decode cX11_when 9 = .ok (.iload_n 2, 1) := o28 hcX11_when rfl
theorem dX11_when_10 : decode cX11_when 10 = .ok (.invokevirtual 232, 3) := o182 hcX11_when rfl
theorem dX11_when_13 : decode cX11_when 13 = .ok (.ifCond .ne 5, 3) := o154 hcX11_when (a := 5) rfl rfl
theorem dX11_when_16 : decode cX11_when 16 = .ok (.iconst (-1), 1) := o2 hcX11_when rfl
theorem dX11_when_17 : decode cX11_when 17 = .ok (.ireturn, 1) := o172 hcX11_when rfl
theorem dX11_when_18 : decode cX11_when 18 = .ok (.iconst 0, 1) := o3 hcX11_when rfl
theorem dX11_when_19 : decode cX11_when 19 = .ok (.istore_n 3, 1) := o62 hcX11_when rfl
theorem dX11_when_20 : decode cX11_when 20 = .ok (.iload_n 3, 1) := o29 hcX11_when rfl
theorem dX11_when_21 : decode cX11_when 21 = .ok (.bipush 99, 2) := o16 hcX11_when (a := 99) rfl rfl
theorem dX11_when_23 : decode cX11_when 23 = .ok (.if_icmp .ge 21, 3) := o162 hcX11_when (a := 21) rfl rfl
theorem dX11_when_26 : decode cX11_when 26 = .ok (.aload_n 0, 1) := o42 hcX11_when rfl
theorem dX11_when_27 : decode cX11_when 27 = .ok (.iload_n 1, 1) := o27 hcX11_when rfl
theorem dX11_when_28 : decode cX11_when 28 = .ok (.iload_n 2, 1) := o28 hcX11_when rfl
theorem dX11_when_29 : decode cX11_when 29 = .ok (.iload_n 3, 1) := o29 hcX11_when rfl
theorem dX11_when_30 : decode cX11_when 30 = .ok (.invokevirtual 343, 3) := o182 hcX11_when rfl
theorem dX11_when_33 : decode cX11_when 33 = .ok (.ifCond .eq 5, 3) := o153 hcX11_when (a := 5) rfl rfl
theorem dX11_when_36 : decode cX11_when 36 = .ok (.iload_n 3, 1) := o29 hcX11_when rfl
theorem dX11_when_37 : decode cX11_when 37 = .ok (.ireturn, 1) := o172 hcX11_when rfl
theorem dX11_when_38 : decode cX11_when 38 = .ok (.iinc 3 1, 3) := o132 hcX11_when (b := 1) rfl rfl
theorem dX11_when_41 : decode cX11_when 41 = .ok (.goto (-21), 3) := o167 hcX11_when (a := 65515) rfl rfl
theorem dX11_when_44 : decode cX11_when 44 = .ok (.bipush (-5), 2) := o16 hcX11_when (a := 251) rfl rfl
theorem dX11_when_46 : decode cX11_when 46 = .ok (.ireturn, 1) := o172 hcX11_when rfl
theorem dX11_divisor_0 : decode cX11_divisor 0 = .ok (.iload_n 1, 1) := o27 hcX11_divisor rfl
theorem dX11_divisor_1 : decode cX11_divisor 1 = .ok (.istore_n 3, 1) := o62 hcX11_divisor rfl
theorem dX11_divisor_2 : decode cX11_divisor 2 = .ok (.iload_n 2, 1) := o28 hcX11_divisor rfl
theorem dX11_divisor_3 : decode cX11_divisor 3 = .ok (.istore 4, 2) := o54 hcX11_divisor rfl
theorem dX11_divisor_5 : decode cX11_divisor 5 = .ok (.iload 4, 2) := o21 hcX11_divisor rfl
theorem dX11_divisor_7 : decode cX11_divisor 7 = .ok (.ifCond .eq 19, 3) := o153 hcX11_divisor (a := 19) rfl rfl
theorem dX11_divisor_10 : decode cX11_divisor 10 = .ok (.iload_n 3, 1) := o29 hcX11_divisor rfl
theorem dX11_divisor_11 : decode cX11_divisor 11 = .ok (.iload 4, 2) := o21 hcX11_divisor rfl
theorem dX11_divisor_13 : decode cX11_divisor 13 = .ok (.irem, 1) := o112 hcX11_divisor rfl
theorem dX11_divisor_14 : decode cX11_divisor 14 = .ok (.istore 5, 2) := o54 hcX11_divisor rfl
theorem dX11_divisor_16 : decode cX11_divisor 16 = .ok (.iload 4, 2) := o21 hcX11_divisor rfl
theorem dX11_divisor_18 : decode cX11_divisor 18 = .ok (.istore_n 3, 1) := o62 hcX11_divisor rfl
theorem dX11_divisor_19 : decode cX11_divisor 19 = .ok (.iload 5, 2) := o21 hcX11_divisor rfl
theorem dX11_divisor_21 : decode cX11_divisor 21 = .ok (.istore 4, 2) := o54 hcX11_divisor rfl
theorem dX11_divisor_23 : decode cX11_divisor 23 = .ok (.goto (-18), 3) := o167 hcX11_divisor (a := 65518) rfl rfl
theorem dX11_divisor_26 : decode cX11_divisor 26 = .ok (.iload_n 3, 1) := o29 hcX11_divisor rfl
theorem dX11_divisor_27 : decode cX11_divisor 27 = .ok (.ireturn, 1) := o172 hcX11_divisor rfl
theorem dX11_lowest_0 : decode cX11_lowest 0 = .ok (.aload_n 0, 1) := o42 hcX11_lowest rfl
theorem dX11_lowest_1 : decode cX11_lowest 1 = .ok (.iload_n 1, 1) := o27 hcX11_lowest rfl
theorem dX11_lowest_2 : decode cX11_lowest 2 = .ok (.iload_n 2, 1) := o28 hcX11_lowest rfl
theorem dX11_lowest_3 : decode cX11_lowest 3 = .ok (.invokevirtual 361, 3) := o182 hcX11_lowest rfl
theorem dX11_lowest_6 : decode cX11_lowest 6 = .ok (.istore 4, 2) := o54 hcX11_lowest rfl
theorem dX11_lowest_8 : decode cX11_lowest 8 = .ok (.iload_n 3, 1) := o29 hcX11_lowest rfl
theorem dX11_lowest_9 : decode cX11_lowest 9 = .ok (.ifCond .ne 11, 3) := o154 hcX11_lowest (a := 11) rfl rfl
theorem dX11_lowest_12 : decode cX11_lowest 12 = .ok (.iload_n 1, 1) := o27 hcX11_lowest rfl
theorem dX11_lowest_13 : decode cX11_lowest 13 = .ok (.iload 4, 2) := o21 hcX11_lowest rfl
theorem dX11_lowest_15 : decode cX11_lowest 15 = .ok (.idiv, 1) := o108 hcX11_lowest rfl
theorem dX11_lowest_16 : decode cX11_lowest 16 = .ok (.i2l, 1) := o133 hcX11_lowest rfl
theorem dX11_lowest_17 : decode cX11_lowest 17 = .ok (.goto 8, 3) := o167 hcX11_lowest (a := 8) rfl rfl
theorem dX11_lowest_20 : decode cX11_lowest 20 = .ok (.iload_n 2, 1) := o28 hcX11_lowest rfl
theorem dX11_lowest_21 : decode cX11_lowest 21 = .ok (.iload 4, 2) := o21 hcX11_lowest rfl
theorem dX11_lowest_23 : decode cX11_lowest 23 = .ok (.idiv, 1) := o108 hcX11_lowest rfl
theorem dX11_lowest_24 : decode cX11_lowest 24 = .ok (.i2l, 1) := o133 hcX11_lowest rfl
theorem dX11_lowest_25 : decode cX11_lowest 25 = .ok (.lreturn, 1) := o173 hcX11_lowest rfl
theorem dX11_odds_0 : decode cX11_odds 0 = .ok (.aload_n 0, 1) := o42 hcX11_odds rfl
theorem dX11_odds_1 : decode cX11_odds 1 = .ok (.iload_n 1, 1) := o27 hcX11_odds rfl
theorem dX11_odds_2 : decode cX11_odds 2 = .ok (.invokevirtual 236, 3) := o182 hcX11_odds rfl
theorem dX11_odds_5 : decode cX11_odds 5 = .ok (.ifCond .eq 21, 3) := o153 hcX11_odds (a := 21) rfl rfl
theorem dX11_odds_8 : decode cX11_odds 8 = .ok (.aload_n 0, 1) := o42 hcX11_odds rfl
theorem dX11_odds_9 : decode cX11_odds 9 = .ok (.iload_n 2, 1) := o28 hcX11_odds rfl
theorem dX11_odds_10 : decode cX11_odds 10 = .ok (.invokevirtual 232, 3) := o182 hcX11_odds rfl
theorem dX11_odds_13 : decode cX11_odds 13 = .ok (.ifCond .eq 13, 3) := o153 hcX11_odds (a := 13) rfl rfl
theorem dX11_odds_16 : decode cX11_odds 16 = .ok (.aload_n 0, 1) := o42 hcX11_odds rfl
theorem dX11_odds_17 : decode cX11_odds 17 = .ok (.iload_n 3, 1) := o29 hcX11_odds rfl
theorem dX11_odds_18 : decode cX11_odds 18 = .ok (.iconst 0, 1) := o3 hcX11_odds rfl
theorem dX11_odds_19 : decode cX11_odds 19 = .ok (.iconst 1, 1) := o4 hcX11_odds rfl
theorem dX11_odds_20 : decode cX11_odds 20 = .ok (.invokevirtual 224, 3) := o182 hcX11_odds rfl
theorem dX11_odds_23 : decode cX11_odds 23 = .ok (.ifCond .ne 7, 3) := o154 hcX11_odds (a := 7) rfl rfl
theorem dX11_odds_26 : decode cX11_odds 26 = .ok (.ldc2_w 364, 3) := o20 hcX11_odds rfl
theorem dX11_odds_29 : decode cX11_odds 29 = .ok (.lreturn, 1) := o173 hcX11_odds rfl
theorem dX11_odds_30 : decode cX11_odds 30 = .ok (.iconst 0, 1) := o3 hcX11_odds rfl
theorem dX11_odds_31 : decode cX11_odds 31 = .ok (.istore 4, 2) := o54 hcX11_odds rfl
theorem dX11_odds_33 : decode cX11_odds 33 = .ok (.iconst 0, 1) := o3 hcX11_odds rfl
theorem dX11_odds_34 : decode cX11_odds 34 = .ok (.istore 5, 2) := o54 hcX11_odds rfl
theorem dX11_odds_36 : decode cX11_odds 36 = .ok (.iload 5, 2) := o21 hcX11_odds rfl
theorem dX11_odds_38 : decode cX11_odds 38 = .ok (.bipush 60, 2) := o16 hcX11_odds (a := 60) rfl rfl
theorem dX11_odds_40 : decode cX11_odds 40 = .ok (.if_icmp .ge 30, 3) := o162 hcX11_odds (a := 30) rfl rfl
theorem dX11_odds_43 : decode cX11_odds 43 = .ok (.iload 4, 2) := o21 hcX11_odds rfl
theorem dX11_odds_45 : decode cX11_odds 45 = .ok (.aload_n 0, 1) := o42 hcX11_odds rfl
theorem dX11_odds_46 : decode cX11_odds 46 = .ok (.iload_n 1, 1) := o27 hcX11_odds rfl
theorem dX11_odds_47 : decode cX11_odds 47 = .ok (.iload_n 2, 1) := o28 hcX11_odds rfl
theorem dX11_odds_48 : decode cX11_odds 48 = .ok (.iload 5, 2) := o21 hcX11_odds rfl
theorem dX11_odds_50 : decode cX11_odds 50 = .ok (.invokevirtual 343, 3) := o182 hcX11_odds rfl
theorem dX11_odds_53 : decode cX11_odds 53 = .ok (.ifCond .eq 7, 3) := o153 hcX11_odds (a := 7) rfl rfl
theorem dX11_odds_56 : decode cX11_odds 56 = .ok (.iconst 1, 1) := o4 hcX11_odds rfl
theorem dX11_odds_57 : decode cX11_odds 57 = .ok (.goto 4, 3) := o167 hcX11_odds (a := 4) rfl rfl
theorem dX11_odds_60 : decode cX11_odds 60 = .ok (.iconst 0, 1) := o3 hcX11_odds rfl
theorem dX11_odds_61 : decode cX11_odds 61 = .ok (.iadd, 1) := o96 hcX11_odds rfl
theorem dX11_odds_62 : decode cX11_odds 62 = .ok (.istore 4, 2) := o54 hcX11_odds rfl
theorem dX11_odds_64 : decode cX11_odds 64 = .ok (.iinc 5 1, 3) := o132 hcX11_odds (b := 1) rfl rfl
theorem dX11_odds_67 : decode cX11_odds 67 = .ok (.goto (-31), 3) := o167 hcX11_odds (a := 65505) rfl rfl
theorem dX11_odds_70 : decode cX11_odds 70 = .ok (.aload_n 0, 1) := o42 hcX11_odds rfl
theorem dX11_odds_71 : decode cX11_odds 71 = .ok (.iload 4, 2) := o21 hcX11_odds rfl
theorem dX11_odds_73 : decode cX11_odds 73 = .ok (.bipush 60, 2) := o16 hcX11_odds (a := 60) rfl rfl
theorem dX11_odds_75 : decode cX11_odds 75 = .ok (.iload_n 3, 1) := o29 hcX11_odds rfl
theorem dX11_odds_76 : decode cX11_odds 76 = .ok (.invokevirtual 366, 3) := o182 hcX11_odds rfl
theorem dX11_odds_79 : decode cX11_odds 79 = .ok (.lreturn, 1) := o173 hcX11_odds rfl
theorem dX11_mean_0 : decode cX11_mean 0 = .ok (.aload_n 0, 1) := o42 hcX11_mean rfl
theorem dX11_mean_1 : decode cX11_mean 1 = .ok (.iload_n 1, 1) := o27 hcX11_mean rfl
theorem dX11_mean_2 : decode cX11_mean 2 = .ok (.invokevirtual 232, 3) := o182 hcX11_mean rfl
theorem dX11_mean_5 : decode cX11_mean 5 = .ok (.ifCond .eq 20, 3) := o153 hcX11_mean (a := 20) rfl rfl
theorem dX11_mean_8 : decode cX11_mean 8 = .ok (.aload_n 0, 1) := o42 hcX11_mean rfl
theorem dX11_mean_9 : decode cX11_mean 9 = .ok (.iload_n 2, 1) := o28 hcX11_mean rfl
theorem dX11_mean_10 : decode cX11_mean 10 = .ok (.iconst 0, 1) := o3 hcX11_mean rfl
theorem dX11_mean_11 : decode cX11_mean 11 = .ok (.iconst 1, 1) := o4 hcX11_mean rfl
theorem dX11_mean_12 : decode cX11_mean 12 = .ok (.invokevirtual 224, 3) := o182 hcX11_mean rfl
theorem dX11_mean_15 : decode cX11_mean 15 = .ok (.ifCond .eq 10, 3) := o153 hcX11_mean (a := 10) rfl rfl
theorem dX11_mean_18 : decode cX11_mean 18 = .ok (.aload_n 0, 1) := o42 hcX11_mean rfl
theorem dX11_mean_19 : decode cX11_mean 19 = .ok (.getfield 13, 3) := o180 hcX11_mean rfl
theorem dX11_mean_22 : decode cX11_mean 22 = .ok (.ifCond .ne 7, 3) := o154 hcX11_mean (a := 7) rfl rfl
theorem dX11_mean_25 : decode cX11_mean 25 = .ok (.ldc2_w 364, 3) := o20 hcX11_mean rfl
theorem dX11_mean_28 : decode cX11_mean 28 = .ok (.lreturn, 1) := o173 hcX11_mean rfl
theorem dX11_mean_29 : decode cX11_mean 29 = .ok (.iconst 0, 1) := o3 hcX11_mean rfl
theorem dX11_mean_30 : decode cX11_mean 30 = .ok (.istore_n 3, 1) := o62 hcX11_mean rfl
theorem dX11_mean_31 : decode cX11_mean 31 = .ok (.iconst 0, 1) := o3 hcX11_mean rfl
theorem dX11_mean_32 : decode cX11_mean 32 = .ok (.istore 4, 2) := o54 hcX11_mean rfl
theorem dX11_mean_34 : decode cX11_mean 34 = .ok (.iload 4, 2) := o21 hcX11_mean rfl
theorem dX11_mean_36 : decode cX11_mean 36 = .ok (.aload_n 0, 1) := o42 hcX11_mean rfl
theorem dX11_mean_37 : decode cX11_mean 37 = .ok (.getfield 13, 3) := o180 hcX11_mean rfl
theorem dX11_mean_40 : decode cX11_mean 40 = .ok (.if_icmp .ge 26, 3) := o162 hcX11_mean (a := 26) rfl rfl
theorem dX11_mean_43 : decode cX11_mean 43 = .ok (.aload_n 0, 1) := o42 hcX11_mean rfl
theorem dX11_mean_44 : decode cX11_mean 44 = .ok (.iload 4, 2) := o21 hcX11_mean rfl
theorem dX11_mean_46 : decode cX11_mean 46 = .ok (.iload_n 1, 1) := o27 hcX11_mean rfl
theorem dX11_mean_47 : decode cX11_mean 47 = .ok (.iconst 0, 1) := o3 hcX11_mean rfl
theorem dX11_mean_48 : decode cX11_mean 48 = .ok (.invokevirtual 343, 3) := o182 hcX11_mean rfl
theorem dX11_mean_51 : decode cX11_mean 51 = .ok (.istore 5, 2) := o54 hcX11_mean rfl
theorem dX11_mean_53 : decode cX11_mean 53 = .ok (.iload_n 3, 1) := o29 hcX11_mean rfl
theorem dX11_mean_54 : decode cX11_mean 54 = .ok (.aload_n 0, 1) := o42 hcX11_mean rfl
theorem dX11_mean_55 : decode cX11_mean 55 = .ok (.getfield 99, 3) := o180 hcX11_mean rfl
theorem dX11_mean_58 : decode cX11_mean 58 = .ok (.iadd, 1) := o96 hcX11_mean rfl
theorem dX11_mean_59 : decode cX11_mean 59 = .ok (.istore_n 3, 1) := o62 hcX11_mean rfl
theorem dX11_mean_60 : decode cX11_mean 60 = .ok (.iinc 4 1, 3) := o132 hcX11_mean (b := 1) rfl rfl
theorem dX11_mean_63 : decode cX11_mean 63 = .ok (.goto (-29), 3) := o167 hcX11_mean (a := 65507) rfl rfl
theorem dX11_mean_66 : decode cX11_mean 66 = .ok (.aload_n 0, 1) := o42 hcX11_mean rfl
theorem dX11_mean_67 : decode cX11_mean 67 = .ok (.iload_n 3, 1) := o29 hcX11_mean rfl
theorem dX11_mean_68 : decode cX11_mean 68 = .ok (.aload_n 0, 1) := o42 hcX11_mean rfl
theorem dX11_mean_69 : decode cX11_mean 69 = .ok (.getfield 13, 3) := o180 hcX11_mean rfl
theorem dX11_mean_72 : decode cX11_mean 72 = .ok (.iload_n 2, 1) := o28 hcX11_mean rfl
theorem dX11_mean_73 : decode cX11_mean 73 = .ok (.invokevirtual 366, 3) := o182 hcX11_mean rfl
theorem dX11_mean_76 : decode cX11_mean 76 = .ok (.lreturn, 1) := o173 hcX11_mean rfl
theorem dX11_book_0 : decode cX11_book 0 = .ok (.iload_n 1, 1) := o27 hcX11_book rfl
theorem dX11_book_1 : decode cX11_book 1 = .ok (.iconst (-1), 1) := o2 hcX11_book rfl
theorem dX11_book_2 : decode cX11_book 2 = .ok (.if_icmp .ne 10, 3) := o160 hcX11_book (a := 10) rfl rfl
theorem dX11_book_5 : decode cX11_book 5 = .ok (.aload_n 0, 1) := o42 hcX11_book rfl
theorem dX11_book_6 : decode cX11_book 6 = .ok (.iconst 0, 1) := o3 hcX11_book rfl
theorem dX11_book_7 : decode cX11_book 7 = .ok (.putfield 135, 3) := o181 hcX11_book rfl
theorem dX11_book_10 : decode cX11_book 10 = .ok (.iconst 0, 1) := o3 hcX11_book rfl
theorem dX11_book_11 : decode cX11_book 11 = .ok (.ireturn, 1) := o172 hcX11_book rfl
theorem dX11_book_12 : decode cX11_book 12 = .ok (.aload_n 0, 1) := o42 hcX11_book rfl
theorem dX11_book_13 : decode cX11_book 13 = .ok (.iload_n 1, 1) := o27 hcX11_book rfl
theorem dX11_book_14 : decode cX11_book 14 = .ok (.invokevirtual 236, 3) := o182 hcX11_book rfl
theorem dX11_book_17 : decode cX11_book 17 = .ok (.ifCond .eq 11, 3) := o153 hcX11_book (a := 11) rfl rfl
theorem dX11_book_20 : decode cX11_book 20 = .ok (.aload_n 0, 1) := o42 hcX11_book rfl
theorem dX11_book_21 : decode cX11_book 21 = .ok (.iload_n 2, 1) := o28 hcX11_book rfl
theorem dX11_book_22 : decode cX11_book 22 = .ok (.invokevirtual 232, 3) := o182 hcX11_book rfl
theorem dX11_book_25 : decode cX11_book 25 = .ok (.ifCond .ne 5, 3) := o154 hcX11_book (a := 5) rfl rfl
theorem dX11_book_28 : decode cX11_book 28 = .ok (.iconst (-1), 1) := o2 hcX11_book rfl
theorem dX11_book_29 : decode cX11_book 29 = .ok (.ireturn, 1) := o172 hcX11_book rfl
theorem dX11_book_30 : decode cX11_book 30 = .ok (.aload_n 0, 1) := o42 hcX11_book rfl
theorem dX11_book_31 : decode cX11_book 31 = .ok (.getfield 135, 3) := o180 hcX11_book rfl
theorem dX11_book_34 : decode cX11_book 34 = .ok (.bipush 12, 2) := o16 hcX11_book (a := 12) rfl rfl
theorem dX11_book_36 : decode cX11_book 36 = .ok (.if_icmp .ne 6, 3) := o160 hcX11_book (a := 6) rfl rfl
theorem dX11_book_39 : decode cX11_book 39 = .ok (.bipush (-4), 2) := o16 hcX11_book (a := 252) rfl rfl
theorem dX11_book_41 : decode cX11_book 41 = .ok (.ireturn, 1) := o172 hcX11_book rfl
theorem dX11_book_42 : decode cX11_book 42 = .ok (.aload_n 0, 1) := o42 hcX11_book rfl
theorem dX11_book_43 : decode cX11_book 43 = .ok (.getfield 138, 3) := o180 hcX11_book rfl
theorem dX11_book_46 : decode cX11_book 46 = .ok (.aload_n 0, 1) := o42 hcX11_book rfl
theorem dX11_book_47 : decode cX11_book 47 = .ok (.getfield 135, 3) := o180 hcX11_book rfl
theorem dX11_book_50 : decode cX11_book 50 = .ok (.iload_n 1, 1) := o27 hcX11_book rfl
theorem dX11_book_51 : decode cX11_book 51 = .ok (.iastore, 1) := o79 hcX11_book rfl
theorem dX11_book_52 : decode cX11_book 52 = .ok (.aload_n 0, 1) := o42 hcX11_book rfl
theorem dX11_book_53 : decode cX11_book 53 = .ok (.getfield 141, 3) := o180 hcX11_book rfl
theorem dX11_book_56 : decode cX11_book 56 = .ok (.aload_n 0, 1) := o42 hcX11_book rfl
theorem dX11_book_57 : decode cX11_book 57 = .ok (.getfield 135, 3) := o180 hcX11_book rfl
theorem dX11_book_60 : decode cX11_book 60 = .ok (.iload_n 2, 1) := o28 hcX11_book rfl
theorem dX11_book_61 : decode cX11_book 61 = .ok (.iastore, 1) := o79 hcX11_book rfl
theorem dX11_book_62 : decode cX11_book 62 = .ok (.aload_n 0, 1) := o42 hcX11_book rfl
theorem dX11_book_63 : decode cX11_book 63 = .ok (.dup, 1) := o89 hcX11_book rfl
theorem dX11_book_64 : decode cX11_book 64 = .ok (.getfield 135, 3) := o180 hcX11_book rfl
theorem dX11_book_67 : decode cX11_book 67 = .ok (.iconst 1, 1) := o4 hcX11_book rfl
theorem dX11_book_68 : decode cX11_book 68 = .ok (.iadd, 1) := o96 hcX11_book rfl
theorem dX11_book_69 : decode cX11_book 69 = .ok (.putfield 135, 3) := o181 hcX11_book rfl
theorem dX11_book_72 : decode cX11_book 72 = .ok (.aload_n 0, 1) := o42 hcX11_book rfl
theorem dX11_book_73 : decode cX11_book 73 = .ok (.getfield 135, 3) := o180 hcX11_book rfl
theorem dX11_book_76 : decode cX11_book 76 = .ok (.ireturn, 1) := o172 hcX11_book rfl
theorem dX11_looked_0 : decode cX11_looked 0 = .ok (.iconst 0, 1) := o3 hcX11_looked rfl
theorem dX11_looked_1 : decode cX11_looked 1 = .ok (.istore_n 1, 1) := o60 hcX11_looked rfl
theorem dX11_looked_2 : decode cX11_looked 2 = .ok (.iload_n 1, 1) := o27 hcX11_looked rfl
theorem dX11_looked_3 : decode cX11_looked 3 = .ok (.aload_n 0, 1) := o42 hcX11_looked rfl
theorem dX11_looked_4 : decode cX11_looked 4 = .ok (.getfield 135, 3) := o180 hcX11_looked rfl
theorem dX11_looked_7 : decode cX11_looked 7 = .ok (.if_icmp .ge 31, 3) := o162 hcX11_looked (a := 31) rfl rfl
theorem dX11_looked_10 : decode cX11_looked 10 = .ok (.aload_n 0, 1) := o42 hcX11_looked rfl
theorem dX11_looked_11 : decode cX11_looked 11 = .ok (.aload_n 0, 1) := o42 hcX11_looked rfl
theorem dX11_looked_12 : decode cX11_looked 12 = .ok (.getfield 138, 3) := o180 hcX11_looked rfl
theorem dX11_looked_15 : decode cX11_looked 15 = .ok (.iload_n 1, 1) := o27 hcX11_looked rfl
theorem dX11_looked_16 : decode cX11_looked 16 = .ok (.iaload, 1) := o46 hcX11_looked rfl
theorem dX11_looked_17 : decode cX11_looked 17 = .ok (.aload_n 0, 1) := o42 hcX11_looked rfl
theorem dX11_looked_18 : decode cX11_looked 18 = .ok (.getfield 141, 3) := o180 hcX11_looked rfl
theorem dX11_looked_21 : decode cX11_looked 21 = .ok (.iload_n 1, 1) := o27 hcX11_looked rfl
theorem dX11_looked_22 : decode cX11_looked 22 = .ok (.iaload, 1) := o46 hcX11_looked rfl
theorem dX11_looked_23 : decode cX11_looked 23 = .ok (.iconst 0, 1) := o3 hcX11_looked rfl
theorem dX11_looked_24 : decode cX11_looked 24 = .ok (.invokevirtual 343, 3) := o182 hcX11_looked rfl
theorem dX11_looked_27 : decode cX11_looked 27 = .ok (.ifCond .ne 5, 3) := o154 hcX11_looked (a := 5) rfl rfl
theorem dX11_looked_30 : decode cX11_looked 30 = .ok (.iload_n 1, 1) := o27 hcX11_looked rfl
theorem dX11_looked_31 : decode cX11_looked 31 = .ok (.ireturn, 1) := o172 hcX11_looked rfl
theorem dX11_looked_32 : decode cX11_looked 32 = .ok (.iinc 1 1, 3) := o132 hcX11_looked (b := 1) rfl rfl
theorem dX11_looked_35 : decode cX11_looked 35 = .ok (.goto (-33), 3) := o167 hcX11_looked (a := 65503) rfl rfl
theorem dX11_looked_38 : decode cX11_looked 38 = .ok (.bipush (-5), 2) := o16 hcX11_looked (a := 251) rfl rfl
theorem dX11_looked_40 : decode cX11_looked 40 = .ok (.ireturn, 1) := o172 hcX11_looked rfl
theorem dX11_judge_0 : decode cX11_judge 0 = .ok (.aload_n 0, 1) := o42 hcX11_judge rfl
theorem dX11_judge_1 : decode cX11_judge 1 = .ok (.iload_n 1, 1) := o27 hcX11_judge rfl
theorem dX11_judge_2 : decode cX11_judge 2 = .ok (.invokevirtual 370, 3) := o182 hcX11_judge rfl
theorem dX11_judge_5 : decode cX11_judge 5 = .ok (.ifCond .ne 5, 3) := o154 hcX11_judge (a := 5) rfl rfl
theorem dX11_judge_8 : decode cX11_judge 8 = .ok (.iconst (-1), 1) := o2 hcX11_judge rfl
theorem dX11_judge_9 : decode cX11_judge 9 = .ok (.ireturn, 1) := o172 hcX11_judge rfl
theorem dX11_judge_10 : decode cX11_judge 10 = .ok (.aload_n 0, 1) := o42 hcX11_judge rfl
theorem dX11_judge_11 : decode cX11_judge 11 = .ok (.getfield 211, 3) := o180 hcX11_judge rfl
theorem dX11_judge_14 : decode cX11_judge 14 = .ok (.iload_n 1, 1) := o27 hcX11_judge rfl
theorem dX11_judge_15 : decode cX11_judge 15 = .ok (.iaload, 1) := o46 hcX11_judge rfl
theorem dX11_judge_16 : decode cX11_judge 16 = .ok (.ifCond .le 6, 3) := o158 hcX11_judge (a := 6) rfl rfl
theorem dX11_judge_19 : decode cX11_judge 19 = .ok (.bipush (-12), 2) := o16 hcX11_judge (a := 244) rfl rfl
theorem dX11_judge_21 : decode cX11_judge 21 = .ok (.ireturn, 1) := o172 hcX11_judge rfl
theorem dX11_judge_22 : decode cX11_judge 22 = .ok (.iconst 0, 1) := o3 hcX11_judge rfl
theorem dX11_judge_23 : decode cX11_judge 23 = .ok (.istore_n 3, 1) := o62 hcX11_judge rfl
theorem dX11_judge_24 : decode cX11_judge 24 = .ok (.iload_n 3, 1) := o29 hcX11_judge rfl
theorem dX11_judge_25 : decode cX11_judge 25 = .ok (.aload_n 0, 1) := o42 hcX11_judge rfl
theorem dX11_judge_26 : decode cX11_judge 26 = .ok (.getfield 7, 3) := o180 hcX11_judge rfl
theorem dX11_judge_29 : decode cX11_judge 29 = .ok (.if_icmp .ge 67, 3) := o162 hcX11_judge (a := 67) rfl rfl
theorem dX11_judge_32 : decode cX11_judge 32 = .ok (.aload_n 0, 1) := o42 hcX11_judge rfl
theorem dX11_judge_33 : decode cX11_judge 33 = .ok (.getfield 211, 3) := o180 hcX11_judge rfl
theorem dX11_judge_36 : decode cX11_judge 36 = .ok (.iload_n 1, 1) := o27 hcX11_judge rfl
theorem dX11_judge_37 : decode cX11_judge 37 = .ok (.iaload, 1) := o46 hcX11_judge rfl
theorem dX11_judge_38 : decode cX11_judge 38 = .ok (.ifCond .lt 21, 3) := o155 hcX11_judge (a := 21) rfl rfl
theorem dX11_judge_41 : decode cX11_judge 41 = .ok (.iload_n 2, 1) := o28 hcX11_judge rfl
theorem dX11_judge_42 : decode cX11_judge 42 = .ok (.ifCond .lt 17, 3) := o155 hcX11_judge (a := 17) rfl rfl
theorem dX11_judge_45 : decode cX11_judge 45 = .ok (.iload_n 2, 1) := o28 hcX11_judge rfl
theorem dX11_judge_46 : decode cX11_judge 46 = .ok (.aload_n 0, 1) := o42 hcX11_judge rfl
theorem dX11_judge_47 : decode cX11_judge 47 = .ok (.getfield 214, 3) := o180 hcX11_judge rfl
theorem dX11_judge_50 : decode cX11_judge 50 = .ok (.iload_n 1, 1) := o27 hcX11_judge rfl
theorem dX11_judge_51 : decode cX11_judge 51 = .ok (.iaload, 1) := o46 hcX11_judge rfl
theorem dX11_judge_52 : decode cX11_judge 52 = .ok (.iload_n 3, 1) := o29 hcX11_judge rfl
theorem dX11_judge_53 : decode cX11_judge 53 = .ok (.isub, 1) := o100 hcX11_judge rfl
theorem dX11_judge_54 : decode cX11_judge 54 = .ok (.iconst 1, 1) := o4 hcX11_judge rfl
theorem dX11_judge_55 : decode cX11_judge 55 = .ok (.isub, 1) := o100 hcX11_judge rfl
theorem dX11_judge_56 : decode cX11_judge 56 = .ok (.if_icmp .le 8, 3) := o164 hcX11_judge (a := 8) rfl rfl
theorem dX11_judge_59 : decode cX11_judge 59 = .ok (.bipush 100, 2) := o16 hcX11_judge (a := 100) rfl rfl
theorem dX11_judge_61 : decode cX11_judge 61 = .ok (.iload_n 3, 1) := o29 hcX11_judge rfl
theorem dX11_judge_62 : decode cX11_judge 62 = .ok (.iadd, 1) := o96 hcX11_judge rfl
theorem dX11_judge_63 : decode cX11_judge 63 = .ok (.ireturn, 1) := o172 hcX11_judge rfl
theorem dX11_judge_64 : decode cX11_judge 64 = .ok (.aload_n 0, 1) := o42 hcX11_judge rfl
theorem dX11_judge_65 : decode cX11_judge 65 = .ok (.getfield 217, 3) := o180 hcX11_judge rfl
theorem dX11_judge_68 : decode cX11_judge 68 = .ok (.bipush 60, 2) := o16 hcX11_judge (a := 60) rfl rfl
theorem dX11_judge_70 : decode cX11_judge 70 = .ok (.iload_n 1, 1) := o27 hcX11_judge rfl
theorem dX11_judge_71 : decode cX11_judge 71 = .ok (.imul, 1) := o104 hcX11_judge rfl
theorem dX11_judge_72 : decode cX11_judge 72 = .ok (.iload_n 2, 1) := o28 hcX11_judge rfl
theorem dX11_judge_73 : decode cX11_judge 73 = .ok (.iadd, 1) := o96 hcX11_judge rfl
theorem dX11_judge_74 : decode cX11_judge 74 = .ok (.iload_n 3, 1) := o29 hcX11_judge rfl
theorem dX11_judge_75 : decode cX11_judge 75 = .ok (.iadd, 1) := o96 hcX11_judge rfl
theorem dX11_judge_76 : decode cX11_judge 76 = .ok (.laload, 1) := o47 hcX11_judge rfl
theorem dX11_judge_77 : decode cX11_judge 77 = .ok (.aload_n 0, 1) := o42 hcX11_judge rfl
theorem dX11_judge_78 : decode cX11_judge 78 = .ok (.getfield 23, 3) := o180 hcX11_judge rfl
theorem dX11_judge_81 : decode cX11_judge 81 = .ok (.iload_n 3, 1) := o29 hcX11_judge rfl
theorem dX11_judge_82 : decode cX11_judge 82 = .ok (.iaload, 1) := o46 hcX11_judge rfl
theorem dX11_judge_83 : decode cX11_judge 83 = .ok (.i2l, 1) := o133 hcX11_judge rfl
theorem dX11_judge_84 : decode cX11_judge 84 = .ok (.lcmp, 1) := o148 hcX11_judge rfl
theorem dX11_judge_85 : decode cX11_judge 85 = .ok (.ifCond .eq 5, 3) := o153 hcX11_judge (a := 5) rfl rfl
theorem dX11_judge_88 : decode cX11_judge 88 = .ok (.iload_n 3, 1) := o29 hcX11_judge rfl
theorem dX11_judge_89 : decode cX11_judge 89 = .ok (.ireturn, 1) := o172 hcX11_judge rfl
theorem dX11_judge_90 : decode cX11_judge 90 = .ok (.iinc 3 1, 3) := o132 hcX11_judge (b := 1) rfl rfl
theorem dX11_judge_93 : decode cX11_judge 93 = .ok (.goto (-69), 3) := o167 hcX11_judge (a := 65467) rfl rfl
theorem dX11_judge_96 : decode cX11_judge 96 = .ok (.bipush (-5), 2) := o16 hcX11_judge (a := 251) rfl rfl
theorem dX11_judge_98 : decode cX11_judge 98 = .ok (.ireturn, 1) := o172 hcX11_judge rfl
theorem dX11_image_0 : decode cX11_image 0 = .ok (.aload_n 0, 1) := o42 hcX11_image rfl
theorem dX11_image_1 : decode cX11_image 1 = .ok (.iconst 1, 1) := o4 hcX11_image rfl
theorem dX11_image_2 : decode cX11_image 2 = .ok (.putfield 144, 3) := o181 hcX11_image rfl
theorem dX11_image_5 : decode cX11_image 5 = .ok (.aload_n 0, 1) := o42 hcX11_image rfl
theorem dX11_image_6 : decode cX11_image 6 = .ok (.aload_n 0, 1) := o42 hcX11_image rfl
theorem dX11_image_7 : decode cX11_image 7 = .ok (.getfield 44, 3) := o180 hcX11_image rfl
theorem dX11_image_10 : decode cX11_image 10 = .ok (.putfield 148, 3) := o181 hcX11_image rfl
theorem dX11_image_13 : decode cX11_image 13 = .ok (.aload_n 0, 1) := o42 hcX11_image rfl
theorem dX11_image_14 : decode cX11_image 14 = .ok (.aload_n 0, 1) := o42 hcX11_image rfl
theorem dX11_image_15 : decode cX11_image 15 = .ok (.getfield 7, 3) := o180 hcX11_image rfl
theorem dX11_image_18 : decode cX11_image 18 = .ok (.putfield 151, 3) := o181 hcX11_image rfl
theorem dX11_image_21 : decode cX11_image 21 = .ok (.aload_n 0, 1) := o42 hcX11_image rfl
theorem dX11_image_22 : decode cX11_image 22 = .ok (.aload_n 0, 1) := o42 hcX11_image rfl
theorem dX11_image_23 : decode cX11_image 23 = .ok (.getfield 13, 3) := o180 hcX11_image rfl
theorem dX11_image_26 : decode cX11_image 26 = .ok (.putfield 154, 3) := o181 hcX11_image rfl
theorem dX11_image_29 : decode cX11_image 29 = .ok (.aload_n 0, 1) := o42 hcX11_image rfl
theorem dX11_image_30 : decode cX11_image 30 = .ok (.aload_n 0, 1) := o42 hcX11_image rfl
theorem dX11_image_31 : decode cX11_image 31 = .ok (.getfield 114, 3) := o180 hcX11_image rfl
theorem dX11_image_34 : decode cX11_image 34 = .ok (.putfield 157, 3) := o181 hcX11_image rfl
theorem dX11_image_37 : decode cX11_image 37 = .ok (.aload_n 0, 1) := o42 hcX11_image rfl
theorem dX11_image_38 : decode cX11_image 38 = .ok (.aload_n 0, 1) := o42 hcX11_image rfl
theorem dX11_image_39 : decode cX11_image 39 = .ok (.getfield 126, 3) := o180 hcX11_image rfl
theorem dX11_image_42 : decode cX11_image 42 = .ok (.putfield 160, 3) := o181 hcX11_image rfl
theorem dX11_image_45 : decode cX11_image 45 = .ok (.aload_n 0, 1) := o42 hcX11_image rfl
theorem dX11_image_46 : decode cX11_image 46 = .ok (.aload_n 0, 1) := o42 hcX11_image rfl
theorem dX11_image_47 : decode cX11_image 47 = .ok (.getfield 135, 3) := o180 hcX11_image rfl
theorem dX11_image_50 : decode cX11_image 50 = .ok (.putfield 163, 3) := o181 hcX11_image rfl
theorem dX11_image_53 : decode cX11_image 53 = .ok (.iconst 0, 1) := o3 hcX11_image rfl
theorem dX11_image_54 : decode cX11_image 54 = .ok (.istore_n 1, 1) := o60 hcX11_image rfl
theorem dX11_image_55 : decode cX11_image 55 = .ok (.iload_n 1, 1) := o27 hcX11_image rfl
theorem dX11_image_56 : decode cX11_image 56 = .ok (.bipush 6, 2) := o16 hcX11_image (a := 6) rfl rfl
theorem dX11_image_58 : decode cX11_image 58 = .ok (.if_icmp .ge 57, 3) := o162 hcX11_image (a := 57) rfl rfl
theorem dX11_image_61 : decode cX11_image 61 = .ok (.aload_n 0, 1) := o42 hcX11_image rfl
theorem dX11_image_62 : decode cX11_image 62 = .ok (.getfield 166, 3) := o180 hcX11_image rfl
theorem dX11_image_65 : decode cX11_image 65 = .ok (.iload_n 1, 1) := o27 hcX11_image rfl
theorem dX11_image_66 : decode cX11_image 66 = .ok (.aload_n 0, 1) := o42 hcX11_image rfl
theorem dX11_image_67 : decode cX11_image 67 = .ok (.getfield 16, 3) := o180 hcX11_image rfl
theorem dX11_image_70 : decode cX11_image 70 = .ok (.iload_n 1, 1) := o27 hcX11_image rfl
theorem dX11_image_71 : decode cX11_image 71 = .ok (.iaload, 1) := o46 hcX11_image rfl
theorem dX11_image_72 : decode cX11_image 72 = .ok (.iastore, 1) := o79 hcX11_image rfl
theorem dX11_image_73 : decode cX11_image 73 = .ok (.aload_n 0, 1) := o42 hcX11_image rfl
theorem dX11_image_74 : decode cX11_image 74 = .ok (.getfield 169, 3) := o180 hcX11_image rfl
theorem dX11_image_77 : decode cX11_image 77 = .ok (.iload_n 1, 1) := o27 hcX11_image rfl
theorem dX11_image_78 : decode cX11_image 78 = .ok (.aload_n 0, 1) := o42 hcX11_image rfl
theorem dX11_image_79 : decode cX11_image 79 = .ok (.getfield 20, 3) := o180 hcX11_image rfl
theorem dX11_image_82 : decode cX11_image 82 = .ok (.iload_n 1, 1) := o27 hcX11_image rfl
theorem dX11_image_83 : decode cX11_image 83 = .ok (.iaload, 1) := o46 hcX11_image rfl
theorem dX11_image_84 : decode cX11_image 84 = .ok (.iastore, 1) := o79 hcX11_image rfl
theorem dX11_image_85 : decode cX11_image 85 = .ok (.aload_n 0, 1) := o42 hcX11_image rfl
theorem dX11_image_86 : decode cX11_image 86 = .ok (.getfield 172, 3) := o180 hcX11_image rfl
theorem dX11_image_89 : decode cX11_image 89 = .ok (.iload_n 1, 1) := o27 hcX11_image rfl
theorem dX11_image_90 : decode cX11_image 90 = .ok (.aload_n 0, 1) := o42 hcX11_image rfl
theorem dX11_image_91 : decode cX11_image 91 = .ok (.getfield 23, 3) := o180 hcX11_image rfl
theorem dX11_image_94 : decode cX11_image 94 = .ok (.iload_n 1, 1) := o27 hcX11_image rfl
theorem dX11_image_95 : decode cX11_image 95 = .ok (.iaload, 1) := o46 hcX11_image rfl
theorem dX11_image_96 : decode cX11_image 96 = .ok (.iastore, 1) := o79 hcX11_image rfl
theorem dX11_image_97 : decode cX11_image 97 = .ok (.aload_n 0, 1) := o42 hcX11_image rfl
theorem dX11_image_98 : decode cX11_image 98 = .ok (.getfield 175, 3) := o180 hcX11_image rfl
theorem dX11_image_101 : decode cX11_image 101 = .ok (.iload_n 1, 1) := o27 hcX11_image rfl
theorem dX11_image_102 : decode cX11_image 102 = .ok (.aload_n 0, 1) := o42 hcX11_image rfl
theorem dX11_image_103 : decode cX11_image 103 = .ok (.getfield 26, 3) := o180 hcX11_image rfl
theorem dX11_image_106 : decode cX11_image 106 = .ok (.iload_n 1, 1) := o27 hcX11_image rfl
theorem dX11_image_107 : decode cX11_image 107 = .ok (.iaload, 1) := o46 hcX11_image rfl
theorem dX11_image_108 : decode cX11_image 108 = .ok (.iastore, 1) := o79 hcX11_image rfl
theorem dX11_image_109 : decode cX11_image 109 = .ok (.iinc 1 1, 3) := o132 hcX11_image (b := 1) rfl rfl
theorem dX11_image_112 : decode cX11_image 112 = .ok (.goto (-57), 3) := o167 hcX11_image (a := 65479) rfl rfl
theorem dX11_image_115 : decode cX11_image 115 = .ok (.iconst 0, 1) := o3 hcX11_image rfl
theorem dX11_image_116 : decode cX11_image 116 = .ok (.istore_n 1, 1) := o60 hcX11_image rfl
theorem dX11_image_117 : decode cX11_image 117 = .ok (.iload_n 1, 1) := o27 hcX11_image rfl
theorem dX11_image_118 : decode cX11_image 118 = .ok (.bipush 24, 2) := o16 hcX11_image (a := 24) rfl rfl
theorem dX11_image_120 : decode cX11_image 120 = .ok (.if_icmp .ge 21, 3) := o162 hcX11_image (a := 21) rfl rfl
theorem dX11_image_123 : decode cX11_image 123 = .ok (.aload_n 0, 1) := o42 hcX11_image rfl
theorem dX11_image_124 : decode cX11_image 124 = .ok (.getfield 178, 3) := o180 hcX11_image rfl
theorem dX11_image_127 : decode cX11_image 127 = .ok (.iload_n 1, 1) := o27 hcX11_image rfl
theorem dX11_image_128 : decode cX11_image 128 = .ok (.aload_n 0, 1) := o42 hcX11_image rfl
theorem dX11_image_129 : decode cX11_image 129 = .ok (.getfield 29, 3) := o180 hcX11_image rfl
theorem dX11_image_132 : decode cX11_image 132 = .ok (.iload_n 1, 1) := o27 hcX11_image rfl
theorem dX11_image_133 : decode cX11_image 133 = .ok (.iaload, 1) := o46 hcX11_image rfl
theorem dX11_image_134 : decode cX11_image 134 = .ok (.iastore, 1) := o79 hcX11_image rfl
theorem dX11_image_135 : decode cX11_image 135 = .ok (.iinc 1 1, 3) := o132 hcX11_image (b := 1) rfl rfl
theorem dX11_image_138 : decode cX11_image 138 = .ok (.goto (-21), 3) := o167 hcX11_image (a := 65515) rfl rfl
theorem dX11_image_141 : decode cX11_image 141 = .ok (.iconst 0, 1) := o3 hcX11_image rfl
theorem dX11_image_142 : decode cX11_image 142 = .ok (.istore_n 1, 1) := o60 hcX11_image rfl
theorem dX11_image_143 : decode cX11_image 143 = .ok (.iload_n 1, 1) := o27 hcX11_image rfl
theorem dX11_image_144 : decode cX11_image 144 = .ok (.iconst 4, 1) := o7 hcX11_image rfl
theorem dX11_image_145 : decode cX11_image 145 = .ok (.if_icmp .ge 45, 3) := o162 hcX11_image (a := 45) rfl rfl
theorem dX11_image_148 : decode cX11_image 148 = .ok (.aload_n 0, 1) := o42 hcX11_image rfl
theorem dX11_image_149 : decode cX11_image 149 = .ok (.getfield 181, 3) := o180 hcX11_image rfl
theorem dX11_image_152 : decode cX11_image 152 = .ok (.iload_n 1, 1) := o27 hcX11_image rfl
theorem dX11_image_153 : decode cX11_image 153 = .ok (.aload_n 0, 1) := o42 hcX11_image rfl
theorem dX11_image_154 : decode cX11_image 154 = .ok (.getfield 32, 3) := o180 hcX11_image rfl
theorem dX11_image_157 : decode cX11_image 157 = .ok (.iload_n 1, 1) := o27 hcX11_image rfl
theorem dX11_image_158 : decode cX11_image 158 = .ok (.iaload, 1) := o46 hcX11_image rfl
theorem dX11_image_159 : decode cX11_image 159 = .ok (.iastore, 1) := o79 hcX11_image rfl
theorem dX11_image_160 : decode cX11_image 160 = .ok (.aload_n 0, 1) := o42 hcX11_image rfl
theorem dX11_image_161 : decode cX11_image 161 = .ok (.getfield 184, 3) := o180 hcX11_image rfl
theorem dX11_image_164 : decode cX11_image 164 = .ok (.iload_n 1, 1) := o27 hcX11_image rfl
theorem dX11_image_165 : decode cX11_image 165 = .ok (.aload_n 0, 1) := o42 hcX11_image rfl
theorem dX11_image_166 : decode cX11_image 166 = .ok (.getfield 35, 3) := o180 hcX11_image rfl
theorem dX11_image_169 : decode cX11_image 169 = .ok (.iload_n 1, 1) := o27 hcX11_image rfl
theorem dX11_image_170 : decode cX11_image 170 = .ok (.iaload, 1) := o46 hcX11_image rfl
theorem dX11_image_171 : decode cX11_image 171 = .ok (.iastore, 1) := o79 hcX11_image rfl
theorem dX11_image_172 : decode cX11_image 172 = .ok (.aload_n 0, 1) := o42 hcX11_image rfl
theorem dX11_image_173 : decode cX11_image 173 = .ok (.getfield 187, 3) := o180 hcX11_image rfl
theorem dX11_image_176 : decode cX11_image 176 = .ok (.iload_n 1, 1) := o27 hcX11_image rfl
theorem dX11_image_177 : decode cX11_image 177 = .ok (.aload_n 0, 1) := o42 hcX11_image rfl
theorem dX11_image_178 : decode cX11_image 178 = .ok (.getfield 38, 3) := o180 hcX11_image rfl
theorem dX11_image_181 : decode cX11_image 181 = .ok (.iload_n 1, 1) := o27 hcX11_image rfl
theorem dX11_image_182 : decode cX11_image 182 = .ok (.iaload, 1) := o46 hcX11_image rfl
theorem dX11_image_183 : decode cX11_image 183 = .ok (.iastore, 1) := o79 hcX11_image rfl
theorem dX11_image_184 : decode cX11_image 184 = .ok (.iinc 1 1, 3) := o132 hcX11_image (b := 1) rfl rfl
theorem dX11_image_187 : decode cX11_image 187 = .ok (.goto (-44), 3) := o167 hcX11_image (a := 65492) rfl rfl
theorem dX11_image_190 : decode cX11_image 190 = .ok (.iconst 0, 1) := o3 hcX11_image rfl
theorem dX11_image_191 : decode cX11_image 191 = .ok (.istore_n 1, 1) := o60 hcX11_image rfl
theorem dX11_image_192 : decode cX11_image 192 = .ok (.iload_n 1, 1) := o27 hcX11_image rfl
theorem dX11_image_193 : decode cX11_image 193 = .ok (.bipush 8, 2) := o16 hcX11_image (a := 8) rfl rfl
theorem dX11_image_195 : decode cX11_image 195 = .ok (.if_icmp .ge 45, 3) := o162 hcX11_image (a := 45) rfl rfl
theorem dX11_image_198 : decode cX11_image 198 = .ok (.aload_n 0, 1) := o42 hcX11_image rfl
theorem dX11_image_199 : decode cX11_image 199 = .ok (.getfield 190, 3) := o180 hcX11_image rfl
theorem dX11_image_202 : decode cX11_image 202 = .ok (.iload_n 1, 1) := o27 hcX11_image rfl
theorem dX11_image_203 : decode cX11_image 203 = .ok (.aload_n 0, 1) := o42 hcX11_image rfl
theorem dX11_image_204 : decode cX11_image 204 = .ok (.getfield 117, 3) := o180 hcX11_image rfl
theorem dX11_image_207 : decode cX11_image 207 = .ok (.iload_n 1, 1) := o27 hcX11_image rfl
theorem dX11_image_208 : decode cX11_image 208 = .ok (.iaload, 1) := o46 hcX11_image rfl
theorem dX11_image_209 : decode cX11_image 209 = .ok (.iastore, 1) := o79 hcX11_image rfl
theorem dX11_image_210 : decode cX11_image 210 = .ok (.aload_n 0, 1) := o42 hcX11_image rfl
theorem dX11_image_211 : decode cX11_image 211 = .ok (.getfield 193, 3) := o180 hcX11_image rfl
theorem dX11_image_214 : decode cX11_image 214 = .ok (.iload_n 1, 1) := o27 hcX11_image rfl
theorem dX11_image_215 : decode cX11_image 215 = .ok (.aload_n 0, 1) := o42 hcX11_image rfl
theorem dX11_image_216 : decode cX11_image 216 = .ok (.getfield 129, 3) := o180 hcX11_image rfl
theorem dX11_image_219 : decode cX11_image 219 = .ok (.iload_n 1, 1) := o27 hcX11_image rfl
theorem dX11_image_220 : decode cX11_image 220 = .ok (.iaload, 1) := o46 hcX11_image rfl
theorem dX11_image_221 : decode cX11_image 221 = .ok (.iastore, 1) := o79 hcX11_image rfl
theorem dX11_image_222 : decode cX11_image 222 = .ok (.aload_n 0, 1) := o42 hcX11_image rfl
theorem dX11_image_223 : decode cX11_image 223 = .ok (.getfield 202, 3) := o180 hcX11_image rfl
theorem dX11_image_226 : decode cX11_image 226 = .ok (.iload_n 1, 1) := o27 hcX11_image rfl
theorem dX11_image_227 : decode cX11_image 227 = .ok (.aload_n 0, 1) := o42 hcX11_image rfl
theorem dX11_image_228 : decode cX11_image 228 = .ok (.getfield 132, 3) := o180 hcX11_image rfl
theorem dX11_image_231 : decode cX11_image 231 = .ok (.iload_n 1, 1) := o27 hcX11_image rfl
theorem dX11_image_232 : decode cX11_image 232 = .ok (.baload, 1) := o51 hcX11_image rfl
theorem dX11_image_233 : decode cX11_image 233 = .ok (.bastore, 1) := o84 hcX11_image rfl
theorem dX11_image_234 : decode cX11_image 234 = .ok (.iinc 1 1, 3) := o132 hcX11_image (b := 1) rfl rfl
theorem dX11_image_237 : decode cX11_image 237 = .ok (.goto (-45), 3) := o167 hcX11_image (a := 65491) rfl rfl
theorem dX11_image_240 : decode cX11_image 240 = .ok (.iconst 0, 1) := o3 hcX11_image rfl
theorem dX11_image_241 : decode cX11_image 241 = .ok (.istore_n 1, 1) := o60 hcX11_image rfl
theorem dX11_image_242 : decode cX11_image 242 = .ok (.iload_n 1, 1) := o27 hcX11_image rfl
theorem dX11_image_243 : decode cX11_image 243 = .ok (.bipush 12, 2) := o16 hcX11_image (a := 12) rfl rfl
theorem dX11_image_245 : decode cX11_image 245 = .ok (.if_icmp .ge 33, 3) := o162 hcX11_image (a := 33) rfl rfl
theorem dX11_image_248 : decode cX11_image 248 = .ok (.aload_n 0, 1) := o42 hcX11_image rfl
theorem dX11_image_249 : decode cX11_image 249 = .ok (.getfield 196, 3) := o180 hcX11_image rfl
theorem dX11_image_252 : decode cX11_image 252 = .ok (.iload_n 1, 1) := o27 hcX11_image rfl
theorem dX11_image_253 : decode cX11_image 253 = .ok (.aload_n 0, 1) := o42 hcX11_image rfl
theorem dX11_image_254 : decode cX11_image 254 = .ok (.getfield 138, 3) := o180 hcX11_image rfl
theorem dX11_image_257 : decode cX11_image 257 = .ok (.iload_n 1, 1) := o27 hcX11_image rfl
theorem dX11_image_258 : decode cX11_image 258 = .ok (.iaload, 1) := o46 hcX11_image rfl
theorem dX11_image_259 : decode cX11_image 259 = .ok (.iastore, 1) := o79 hcX11_image rfl
theorem dX11_image_260 : decode cX11_image 260 = .ok (.aload_n 0, 1) := o42 hcX11_image rfl
theorem dX11_image_261 : decode cX11_image 261 = .ok (.getfield 199, 3) := o180 hcX11_image rfl
theorem dX11_image_264 : decode cX11_image 264 = .ok (.iload_n 1, 1) := o27 hcX11_image rfl
theorem dX11_image_265 : decode cX11_image 265 = .ok (.aload_n 0, 1) := o42 hcX11_image rfl
theorem dX11_image_266 : decode cX11_image 266 = .ok (.getfield 141, 3) := o180 hcX11_image rfl
theorem dX11_image_269 : decode cX11_image 269 = .ok (.iload_n 1, 1) := o27 hcX11_image rfl
theorem dX11_image_270 : decode cX11_image 270 = .ok (.iaload, 1) := o46 hcX11_image rfl
theorem dX11_image_271 : decode cX11_image 271 = .ok (.iastore, 1) := o79 hcX11_image rfl
theorem dX11_image_272 : decode cX11_image 272 = .ok (.iinc 1 1, 3) := o132 hcX11_image (b := 1) rfl rfl
theorem dX11_image_275 : decode cX11_image 275 = .ok (.goto (-33), 3) := o167 hcX11_image (a := 65503) rfl rfl
theorem dX11_image_278 : decode cX11_image 278 = .ok (.aload_n 0, 1) := o42 hcX11_image rfl
theorem dX11_image_279 : decode cX11_image 279 = .ok (.getfield 7, 3) := o180 hcX11_image rfl
theorem dX11_image_282 : decode cX11_image 282 = .ok (.ireturn, 1) := o172 hcX11_image rfl
theorem dX11_undo_0 : decode cX11_undo 0 = .ok (.aload_n 0, 1) := o42 hcX11_undo rfl
theorem dX11_undo_1 : decode cX11_undo 1 = .ok (.getfield 144, 3) := o180 hcX11_undo rfl
theorem dX11_undo_4 : decode cX11_undo 4 = .ok (.ifCond .ne 6, 3) := o154 hcX11_undo (a := 6) rfl rfl
theorem dX11_undo_7 : decode cX11_undo 7 = .ok (.bipush (-3), 2) := o16 hcX11_undo (a := 253) rfl rfl
theorem dX11_undo_9 : decode cX11_undo 9 = .ok (.ireturn, 1) := o172 hcX11_undo rfl
theorem dX11_undo_10 : decode cX11_undo 10 = .ok (.aload_n 0, 1) := o42 hcX11_undo rfl
theorem dX11_undo_11 : decode cX11_undo 11 = .ok (.aload_n 0, 1) := o42 hcX11_undo rfl
theorem dX11_undo_12 : decode cX11_undo 12 = .ok (.getfield 148, 3) := o180 hcX11_undo rfl
theorem dX11_undo_15 : decode cX11_undo 15 = .ok (.putfield 44, 3) := o181 hcX11_undo rfl
theorem dX11_undo_18 : decode cX11_undo 18 = .ok (.aload_n 0, 1) := o42 hcX11_undo rfl
theorem dX11_undo_19 : decode cX11_undo 19 = .ok (.aload_n 0, 1) := o42 hcX11_undo rfl
theorem dX11_undo_20 : decode cX11_undo 20 = .ok (.getfield 151, 3) := o180 hcX11_undo rfl
theorem dX11_undo_23 : decode cX11_undo 23 = .ok (.putfield 7, 3) := o181 hcX11_undo rfl
theorem dX11_undo_26 : decode cX11_undo 26 = .ok (.aload_n 0, 1) := o42 hcX11_undo rfl
theorem dX11_undo_27 : decode cX11_undo 27 = .ok (.aload_n 0, 1) := o42 hcX11_undo rfl
theorem dX11_undo_28 : decode cX11_undo 28 = .ok (.getfield 154, 3) := o180 hcX11_undo rfl
theorem dX11_undo_31 : decode cX11_undo 31 = .ok (.putfield 13, 3) := o181 hcX11_undo rfl
theorem dX11_undo_34 : decode cX11_undo 34 = .ok (.aload_n 0, 1) := o42 hcX11_undo rfl
theorem dX11_undo_35 : decode cX11_undo 35 = .ok (.aload_n 0, 1) := o42 hcX11_undo rfl
theorem dX11_undo_36 : decode cX11_undo 36 = .ok (.getfield 157, 3) := o180 hcX11_undo rfl
theorem dX11_undo_39 : decode cX11_undo 39 = .ok (.putfield 114, 3) := o181 hcX11_undo rfl
theorem dX11_undo_42 : decode cX11_undo 42 = .ok (.aload_n 0, 1) := o42 hcX11_undo rfl
theorem dX11_undo_43 : decode cX11_undo 43 = .ok (.aload_n 0, 1) := o42 hcX11_undo rfl
theorem dX11_undo_44 : decode cX11_undo 44 = .ok (.getfield 160, 3) := o180 hcX11_undo rfl
theorem dX11_undo_47 : decode cX11_undo 47 = .ok (.putfield 126, 3) := o181 hcX11_undo rfl
theorem dX11_undo_50 : decode cX11_undo 50 = .ok (.aload_n 0, 1) := o42 hcX11_undo rfl
theorem dX11_undo_51 : decode cX11_undo 51 = .ok (.aload_n 0, 1) := o42 hcX11_undo rfl
theorem dX11_undo_52 : decode cX11_undo 52 = .ok (.getfield 163, 3) := o180 hcX11_undo rfl
theorem dX11_undo_55 : decode cX11_undo 55 = .ok (.putfield 135, 3) := o181 hcX11_undo rfl
theorem dX11_undo_58 : decode cX11_undo 58 = .ok (.iconst 0, 1) := o3 hcX11_undo rfl
theorem dX11_undo_59 : decode cX11_undo 59 = .ok (.istore_n 1, 1) := o60 hcX11_undo rfl
theorem dX11_undo_60 : decode cX11_undo 60 = .ok (.iload_n 1, 1) := o27 hcX11_undo rfl
theorem dX11_undo_61 : decode cX11_undo 61 = .ok (.bipush 6, 2) := o16 hcX11_undo (a := 6) rfl rfl
theorem dX11_undo_63 : decode cX11_undo 63 = .ok (.if_icmp .ge 57, 3) := o162 hcX11_undo (a := 57) rfl rfl
theorem dX11_undo_66 : decode cX11_undo 66 = .ok (.aload_n 0, 1) := o42 hcX11_undo rfl
theorem dX11_undo_67 : decode cX11_undo 67 = .ok (.getfield 16, 3) := o180 hcX11_undo rfl
theorem dX11_undo_70 : decode cX11_undo 70 = .ok (.iload_n 1, 1) := o27 hcX11_undo rfl
theorem dX11_undo_71 : decode cX11_undo 71 = .ok (.aload_n 0, 1) := o42 hcX11_undo rfl
theorem dX11_undo_72 : decode cX11_undo 72 = .ok (.getfield 166, 3) := o180 hcX11_undo rfl
theorem dX11_undo_75 : decode cX11_undo 75 = .ok (.iload_n 1, 1) := o27 hcX11_undo rfl
theorem dX11_undo_76 : decode cX11_undo 76 = .ok (.iaload, 1) := o46 hcX11_undo rfl
theorem dX11_undo_77 : decode cX11_undo 77 = .ok (.iastore, 1) := o79 hcX11_undo rfl
theorem dX11_undo_78 : decode cX11_undo 78 = .ok (.aload_n 0, 1) := o42 hcX11_undo rfl
theorem dX11_undo_79 : decode cX11_undo 79 = .ok (.getfield 20, 3) := o180 hcX11_undo rfl
theorem dX11_undo_82 : decode cX11_undo 82 = .ok (.iload_n 1, 1) := o27 hcX11_undo rfl
theorem dX11_undo_83 : decode cX11_undo 83 = .ok (.aload_n 0, 1) := o42 hcX11_undo rfl
theorem dX11_undo_84 : decode cX11_undo 84 = .ok (.getfield 169, 3) := o180 hcX11_undo rfl
theorem dX11_undo_87 : decode cX11_undo 87 = .ok (.iload_n 1, 1) := o27 hcX11_undo rfl
theorem dX11_undo_88 : decode cX11_undo 88 = .ok (.iaload, 1) := o46 hcX11_undo rfl
theorem dX11_undo_89 : decode cX11_undo 89 = .ok (.iastore, 1) := o79 hcX11_undo rfl
theorem dX11_undo_90 : decode cX11_undo 90 = .ok (.aload_n 0, 1) := o42 hcX11_undo rfl
theorem dX11_undo_91 : decode cX11_undo 91 = .ok (.getfield 23, 3) := o180 hcX11_undo rfl
theorem dX11_undo_94 : decode cX11_undo 94 = .ok (.iload_n 1, 1) := o27 hcX11_undo rfl
theorem dX11_undo_95 : decode cX11_undo 95 = .ok (.aload_n 0, 1) := o42 hcX11_undo rfl
theorem dX11_undo_96 : decode cX11_undo 96 = .ok (.getfield 172, 3) := o180 hcX11_undo rfl
theorem dX11_undo_99 : decode cX11_undo 99 = .ok (.iload_n 1, 1) := o27 hcX11_undo rfl
theorem dX11_undo_100 : decode cX11_undo 100 = .ok (.iaload, 1) := o46 hcX11_undo rfl
theorem dX11_undo_101 : decode cX11_undo 101 = .ok (.iastore, 1) := o79 hcX11_undo rfl
theorem dX11_undo_102 : decode cX11_undo 102 = .ok (.aload_n 0, 1) := o42 hcX11_undo rfl
theorem dX11_undo_103 : decode cX11_undo 103 = .ok (.getfield 26, 3) := o180 hcX11_undo rfl
theorem dX11_undo_106 : decode cX11_undo 106 = .ok (.iload_n 1, 1) := o27 hcX11_undo rfl
theorem dX11_undo_107 : decode cX11_undo 107 = .ok (.aload_n 0, 1) := o42 hcX11_undo rfl
theorem dX11_undo_108 : decode cX11_undo 108 = .ok (.getfield 175, 3) := o180 hcX11_undo rfl
theorem dX11_undo_111 : decode cX11_undo 111 = .ok (.iload_n 1, 1) := o27 hcX11_undo rfl
theorem dX11_undo_112 : decode cX11_undo 112 = .ok (.iaload, 1) := o46 hcX11_undo rfl
theorem dX11_undo_113 : decode cX11_undo 113 = .ok (.iastore, 1) := o79 hcX11_undo rfl
theorem dX11_undo_114 : decode cX11_undo 114 = .ok (.iinc 1 1, 3) := o132 hcX11_undo (b := 1) rfl rfl
theorem dX11_undo_117 : decode cX11_undo 117 = .ok (.goto (-57), 3) := o167 hcX11_undo (a := 65479) rfl rfl
theorem dX11_undo_120 : decode cX11_undo 120 = .ok (.iconst 0, 1) := o3 hcX11_undo rfl
theorem dX11_undo_121 : decode cX11_undo 121 = .ok (.istore_n 1, 1) := o60 hcX11_undo rfl
theorem dX11_undo_122 : decode cX11_undo 122 = .ok (.iload_n 1, 1) := o27 hcX11_undo rfl
theorem dX11_undo_123 : decode cX11_undo 123 = .ok (.bipush 24, 2) := o16 hcX11_undo (a := 24) rfl rfl
theorem dX11_undo_125 : decode cX11_undo 125 = .ok (.if_icmp .ge 21, 3) := o162 hcX11_undo (a := 21) rfl rfl
theorem dX11_undo_128 : decode cX11_undo 128 = .ok (.aload_n 0, 1) := o42 hcX11_undo rfl
theorem dX11_undo_129 : decode cX11_undo 129 = .ok (.getfield 29, 3) := o180 hcX11_undo rfl
theorem dX11_undo_132 : decode cX11_undo 132 = .ok (.iload_n 1, 1) := o27 hcX11_undo rfl
theorem dX11_undo_133 : decode cX11_undo 133 = .ok (.aload_n 0, 1) := o42 hcX11_undo rfl
theorem dX11_undo_134 : decode cX11_undo 134 = .ok (.getfield 178, 3) := o180 hcX11_undo rfl
theorem dX11_undo_137 : decode cX11_undo 137 = .ok (.iload_n 1, 1) := o27 hcX11_undo rfl
theorem dX11_undo_138 : decode cX11_undo 138 = .ok (.iaload, 1) := o46 hcX11_undo rfl
theorem dX11_undo_139 : decode cX11_undo 139 = .ok (.iastore, 1) := o79 hcX11_undo rfl
theorem dX11_undo_140 : decode cX11_undo 140 = .ok (.iinc 1 1, 3) := o132 hcX11_undo (b := 1) rfl rfl
theorem dX11_undo_143 : decode cX11_undo 143 = .ok (.goto (-21), 3) := o167 hcX11_undo (a := 65515) rfl rfl
theorem dX11_undo_146 : decode cX11_undo 146 = .ok (.iconst 0, 1) := o3 hcX11_undo rfl
theorem dX11_undo_147 : decode cX11_undo 147 = .ok (.istore_n 1, 1) := o60 hcX11_undo rfl
theorem dX11_undo_148 : decode cX11_undo 148 = .ok (.iload_n 1, 1) := o27 hcX11_undo rfl
theorem dX11_undo_149 : decode cX11_undo 149 = .ok (.iconst 4, 1) := o7 hcX11_undo rfl
theorem dX11_undo_150 : decode cX11_undo 150 = .ok (.if_icmp .ge 45, 3) := o162 hcX11_undo (a := 45) rfl rfl
theorem dX11_undo_153 : decode cX11_undo 153 = .ok (.aload_n 0, 1) := o42 hcX11_undo rfl
theorem dX11_undo_154 : decode cX11_undo 154 = .ok (.getfield 32, 3) := o180 hcX11_undo rfl
theorem dX11_undo_157 : decode cX11_undo 157 = .ok (.iload_n 1, 1) := o27 hcX11_undo rfl
theorem dX11_undo_158 : decode cX11_undo 158 = .ok (.aload_n 0, 1) := o42 hcX11_undo rfl
theorem dX11_undo_159 : decode cX11_undo 159 = .ok (.getfield 181, 3) := o180 hcX11_undo rfl
theorem dX11_undo_162 : decode cX11_undo 162 = .ok (.iload_n 1, 1) := o27 hcX11_undo rfl
theorem dX11_undo_163 : decode cX11_undo 163 = .ok (.iaload, 1) := o46 hcX11_undo rfl
theorem dX11_undo_164 : decode cX11_undo 164 = .ok (.iastore, 1) := o79 hcX11_undo rfl
theorem dX11_undo_165 : decode cX11_undo 165 = .ok (.aload_n 0, 1) := o42 hcX11_undo rfl
theorem dX11_undo_166 : decode cX11_undo 166 = .ok (.getfield 35, 3) := o180 hcX11_undo rfl
theorem dX11_undo_169 : decode cX11_undo 169 = .ok (.iload_n 1, 1) := o27 hcX11_undo rfl
theorem dX11_undo_170 : decode cX11_undo 170 = .ok (.aload_n 0, 1) := o42 hcX11_undo rfl
theorem dX11_undo_171 : decode cX11_undo 171 = .ok (.getfield 184, 3) := o180 hcX11_undo rfl
theorem dX11_undo_174 : decode cX11_undo 174 = .ok (.iload_n 1, 1) := o27 hcX11_undo rfl
theorem dX11_undo_175 : decode cX11_undo 175 = .ok (.iaload, 1) := o46 hcX11_undo rfl
theorem dX11_undo_176 : decode cX11_undo 176 = .ok (.iastore, 1) := o79 hcX11_undo rfl
theorem dX11_undo_177 : decode cX11_undo 177 = .ok (.aload_n 0, 1) := o42 hcX11_undo rfl
theorem dX11_undo_178 : decode cX11_undo 178 = .ok (.getfield 38, 3) := o180 hcX11_undo rfl
theorem dX11_undo_181 : decode cX11_undo 181 = .ok (.iload_n 1, 1) := o27 hcX11_undo rfl
theorem dX11_undo_182 : decode cX11_undo 182 = .ok (.aload_n 0, 1) := o42 hcX11_undo rfl
theorem dX11_undo_183 : decode cX11_undo 183 = .ok (.getfield 187, 3) := o180 hcX11_undo rfl
theorem dX11_undo_186 : decode cX11_undo 186 = .ok (.iload_n 1, 1) := o27 hcX11_undo rfl
theorem dX11_undo_187 : decode cX11_undo 187 = .ok (.iaload, 1) := o46 hcX11_undo rfl
theorem dX11_undo_188 : decode cX11_undo 188 = .ok (.iastore, 1) := o79 hcX11_undo rfl
theorem dX11_undo_189 : decode cX11_undo 189 = .ok (.iinc 1 1, 3) := o132 hcX11_undo (b := 1) rfl rfl
theorem dX11_undo_192 : decode cX11_undo 192 = .ok (.goto (-44), 3) := o167 hcX11_undo (a := 65492) rfl rfl
theorem dX11_undo_195 : decode cX11_undo 195 = .ok (.iconst 0, 1) := o3 hcX11_undo rfl
theorem dX11_undo_196 : decode cX11_undo 196 = .ok (.istore_n 1, 1) := o60 hcX11_undo rfl
theorem dX11_undo_197 : decode cX11_undo 197 = .ok (.iload_n 1, 1) := o27 hcX11_undo rfl
theorem dX11_undo_198 : decode cX11_undo 198 = .ok (.bipush 8, 2) := o16 hcX11_undo (a := 8) rfl rfl
theorem dX11_undo_200 : decode cX11_undo 200 = .ok (.if_icmp .ge 45, 3) := o162 hcX11_undo (a := 45) rfl rfl
theorem dX11_undo_203 : decode cX11_undo 203 = .ok (.aload_n 0, 1) := o42 hcX11_undo rfl
theorem dX11_undo_204 : decode cX11_undo 204 = .ok (.getfield 117, 3) := o180 hcX11_undo rfl
theorem dX11_undo_207 : decode cX11_undo 207 = .ok (.iload_n 1, 1) := o27 hcX11_undo rfl
theorem dX11_undo_208 : decode cX11_undo 208 = .ok (.aload_n 0, 1) := o42 hcX11_undo rfl
theorem dX11_undo_209 : decode cX11_undo 209 = .ok (.getfield 190, 3) := o180 hcX11_undo rfl
theorem dX11_undo_212 : decode cX11_undo 212 = .ok (.iload_n 1, 1) := o27 hcX11_undo rfl
theorem dX11_undo_213 : decode cX11_undo 213 = .ok (.iaload, 1) := o46 hcX11_undo rfl
theorem dX11_undo_214 : decode cX11_undo 214 = .ok (.iastore, 1) := o79 hcX11_undo rfl
theorem dX11_undo_215 : decode cX11_undo 215 = .ok (.aload_n 0, 1) := o42 hcX11_undo rfl
theorem dX11_undo_216 : decode cX11_undo 216 = .ok (.getfield 129, 3) := o180 hcX11_undo rfl
theorem dX11_undo_219 : decode cX11_undo 219 = .ok (.iload_n 1, 1) := o27 hcX11_undo rfl
theorem dX11_undo_220 : decode cX11_undo 220 = .ok (.aload_n 0, 1) := o42 hcX11_undo rfl
theorem dX11_undo_221 : decode cX11_undo 221 = .ok (.getfield 193, 3) := o180 hcX11_undo rfl
theorem dX11_undo_224 : decode cX11_undo 224 = .ok (.iload_n 1, 1) := o27 hcX11_undo rfl
theorem dX11_undo_225 : decode cX11_undo 225 = .ok (.iaload, 1) := o46 hcX11_undo rfl
theorem dX11_undo_226 : decode cX11_undo 226 = .ok (.iastore, 1) := o79 hcX11_undo rfl
theorem dX11_undo_227 : decode cX11_undo 227 = .ok (.aload_n 0, 1) := o42 hcX11_undo rfl
theorem dX11_undo_228 : decode cX11_undo 228 = .ok (.getfield 132, 3) := o180 hcX11_undo rfl
theorem dX11_undo_231 : decode cX11_undo 231 = .ok (.iload_n 1, 1) := o27 hcX11_undo rfl
theorem dX11_undo_232 : decode cX11_undo 232 = .ok (.aload_n 0, 1) := o42 hcX11_undo rfl
theorem dX11_undo_233 : decode cX11_undo 233 = .ok (.getfield 202, 3) := o180 hcX11_undo rfl
theorem dX11_undo_236 : decode cX11_undo 236 = .ok (.iload_n 1, 1) := o27 hcX11_undo rfl
theorem dX11_undo_237 : decode cX11_undo 237 = .ok (.baload, 1) := o51 hcX11_undo rfl
theorem dX11_undo_238 : decode cX11_undo 238 = .ok (.bastore, 1) := o84 hcX11_undo rfl
theorem dX11_undo_239 : decode cX11_undo 239 = .ok (.iinc 1 1, 3) := o132 hcX11_undo (b := 1) rfl rfl
theorem dX11_undo_242 : decode cX11_undo 242 = .ok (.goto (-45), 3) := o167 hcX11_undo (a := 65491) rfl rfl
theorem dX11_undo_245 : decode cX11_undo 245 = .ok (.iconst 0, 1) := o3 hcX11_undo rfl
theorem dX11_undo_246 : decode cX11_undo 246 = .ok (.istore_n 1, 1) := o60 hcX11_undo rfl
theorem dX11_undo_247 : decode cX11_undo 247 = .ok (.iload_n 1, 1) := o27 hcX11_undo rfl
theorem dX11_undo_248 : decode cX11_undo 248 = .ok (.bipush 12, 2) := o16 hcX11_undo (a := 12) rfl rfl
theorem dX11_undo_250 : decode cX11_undo 250 = .ok (.if_icmp .ge 33, 3) := o162 hcX11_undo (a := 33) rfl rfl
theorem dX11_undo_253 : decode cX11_undo 253 = .ok (.aload_n 0, 1) := o42 hcX11_undo rfl
theorem dX11_undo_254 : decode cX11_undo 254 = .ok (.getfield 138, 3) := o180 hcX11_undo rfl
theorem dX11_undo_257 : decode cX11_undo 257 = .ok (.iload_n 1, 1) := o27 hcX11_undo rfl
theorem dX11_undo_258 : decode cX11_undo 258 = .ok (.aload_n 0, 1) := o42 hcX11_undo rfl
theorem dX11_undo_259 : decode cX11_undo 259 = .ok (.getfield 196, 3) := o180 hcX11_undo rfl
theorem dX11_undo_262 : decode cX11_undo 262 = .ok (.iload_n 1, 1) := o27 hcX11_undo rfl
theorem dX11_undo_263 : decode cX11_undo 263 = .ok (.iaload, 1) := o46 hcX11_undo rfl
theorem dX11_undo_264 : decode cX11_undo 264 = .ok (.iastore, 1) := o79 hcX11_undo rfl
theorem dX11_undo_265 : decode cX11_undo 265 = .ok (.aload_n 0, 1) := o42 hcX11_undo rfl
theorem dX11_undo_266 : decode cX11_undo 266 = .ok (.getfield 141, 3) := o180 hcX11_undo rfl
theorem dX11_undo_269 : decode cX11_undo 269 = .ok (.iload_n 1, 1) := o27 hcX11_undo rfl
theorem dX11_undo_270 : decode cX11_undo 270 = .ok (.aload_n 0, 1) := o42 hcX11_undo rfl
theorem dX11_undo_271 : decode cX11_undo 271 = .ok (.getfield 199, 3) := o180 hcX11_undo rfl
theorem dX11_undo_274 : decode cX11_undo 274 = .ok (.iload_n 1, 1) := o27 hcX11_undo rfl
theorem dX11_undo_275 : decode cX11_undo 275 = .ok (.iaload, 1) := o46 hcX11_undo rfl
theorem dX11_undo_276 : decode cX11_undo 276 = .ok (.iastore, 1) := o79 hcX11_undo rfl
theorem dX11_undo_277 : decode cX11_undo 277 = .ok (.iinc 1 1, 3) := o132 hcX11_undo (b := 1) rfl rfl
theorem dX11_undo_280 : decode cX11_undo 280 = .ok (.goto (-33), 3) := o167 hcX11_undo (a := 65503) rfl rfl
theorem dX11_undo_283 : decode cX11_undo 283 = .ok (.aload_n 0, 1) := o42 hcX11_undo rfl
theorem dX11_undo_284 : decode cX11_undo 284 = .ok (.getfield 7, 3) := o180 hcX11_undo rfl
theorem dX11_undo_287 : decode cX11_undo 287 = .ok (.ireturn, 1) := o172 hcX11_undo rfl
theorem dX11_body_0 : decode cX11_body 0 = .ok (.aload_n 0, 1) := o42 hcX11_body rfl
theorem dX11_body_1 : decode cX11_body 1 = .ok (.getfield 205, 3) := o180 hcX11_body rfl
theorem dX11_body_4 : decode cX11_body 4 = .ok (.bipush 20, 2) := o16 hcX11_body (a := 20) rfl rfl
theorem dX11_body_6 : decode cX11_body 6 = .ok (.if_icmp .ge 13, 3) := o162 hcX11_body (a := 13) rfl rfl
theorem dX11_body_9 : decode cX11_body 9 = .ok (.aload_n 0, 1) := o42 hcX11_body rfl
theorem dX11_body_10 : decode cX11_body 10 = .ok (.getfield 208, 3) := o180 hcX11_body rfl
theorem dX11_body_13 : decode cX11_body 13 = .ok (.aload_n 0, 1) := o42 hcX11_body rfl
theorem dX11_body_14 : decode cX11_body 14 = .ok (.getfield 205, 3) := o180 hcX11_body rfl
theorem dX11_body_17 : decode cX11_body 17 = .ok (.iload_n 1, 1) := o27 hcX11_body rfl
theorem dX11_body_18 : decode cX11_body 18 = .ok (.iastore, 1) := o79 hcX11_body rfl
theorem dX11_body_19 : decode cX11_body 19 = .ok (.aload_n 0, 1) := o42 hcX11_body rfl
theorem dX11_body_20 : decode cX11_body 20 = .ok (.dup, 1) := o89 hcX11_body rfl
theorem dX11_body_21 : decode cX11_body 21 = .ok (.getfield 205, 3) := o180 hcX11_body rfl
theorem dX11_body_24 : decode cX11_body 24 = .ok (.iconst 1, 1) := o4 hcX11_body rfl
theorem dX11_body_25 : decode cX11_body 25 = .ok (.iadd, 1) := o96 hcX11_body rfl
theorem dX11_body_26 : decode cX11_body 26 = .ok (.putfield 205, 3) := o181 hcX11_body rfl
theorem dX11_body_29 : decode cX11_body 29 = .ok (.return_, 1) := o177 hcX11_body rfl
theorem dX11_houseAsks_0 : decode cX11_houseAsks 0 = .ok (.aload_n 0, 1) := o42 hcX11_houseAsks rfl
theorem dX11_houseAsks_1 : decode cX11_houseAsks 1 = .ok (.bipush 10, 2) := o16 hcX11_houseAsks (a := 10) rfl rfl
theorem dX11_houseAsks_3 : decode cX11_houseAsks 3 = .ok (.invokevirtual 373, 3) := o182 hcX11_houseAsks rfl
theorem dX11_houseAsks_6 : decode cX11_houseAsks 6 = .ok (.iload_n 2, 1) := o28 hcX11_houseAsks rfl
theorem dX11_houseAsks_7 : decode cX11_houseAsks 7 = .ok (.iload_n 1, 1) := o27 hcX11_houseAsks rfl
theorem dX11_houseAsks_8 : decode cX11_houseAsks 8 = .ok (.iadd, 1) := o96 hcX11_houseAsks rfl
theorem dX11_houseAsks_9 : decode cX11_houseAsks 9 = .ok (.ireturn, 1) := o172 hcX11_houseAsks rfl
theorem dX11_asksAct_0 : decode cX11_asksAct 0 = .ok (.aload_n 0, 1) := o42 hcX11_asksAct rfl
theorem dX11_asksAct_1 : decode cX11_asksAct 1 = .ok (.getfield 16, 3) := o180 hcX11_asksAct rfl
theorem dX11_asksAct_4 : decode cX11_asksAct 4 = .ok (.iload_n 1, 1) := o27 hcX11_asksAct rfl
theorem dX11_asksAct_5 : decode cX11_asksAct 5 = .ok (.iaload, 1) := o46 hcX11_asksAct rfl
theorem dX11_asksAct_6 : decode cX11_asksAct 6 = .ok (.tableswitch 83 2 6 #[34, 83, 49, 34, 63], 34) := by decide +kernel
theorem dX11_asksAct_40 : decode cX11_asksAct 40 = .ok (.aload_n 0, 1) := o42 hcX11_asksAct rfl
theorem dX11_asksAct_41 : decode cX11_asksAct 41 = .ok (.bipush 30, 2) := o16 hcX11_asksAct (a := 30) rfl rfl
theorem dX11_asksAct_43 : decode cX11_asksAct 43 = .ok (.invokevirtual 373, 3) := o182 hcX11_asksAct rfl
theorem dX11_asksAct_46 : decode cX11_asksAct 46 = .ok (.aload_n 0, 1) := o42 hcX11_asksAct rfl
theorem dX11_asksAct_47 : decode cX11_asksAct 47 = .ok (.iload_n 1, 1) := o27 hcX11_asksAct rfl
theorem dX11_asksAct_48 : decode cX11_asksAct 48 = .ok (.iload_n 2, 1) := o28 hcX11_asksAct rfl
theorem dX11_asksAct_49 : decode cX11_asksAct 49 = .ok (.iconst 3, 1) := o6 hcX11_asksAct rfl
theorem dX11_asksAct_50 : decode cX11_asksAct 50 = .ok (.imul, 1) := o104 hcX11_asksAct rfl
theorem dX11_asksAct_51 : decode cX11_asksAct 51 = .ok (.invokevirtual 376, 3) := o182 hcX11_asksAct rfl
theorem dX11_asksAct_54 : decode cX11_asksAct 54 = .ok (.ireturn, 1) := o172 hcX11_asksAct rfl
theorem dX11_asksAct_55 : decode cX11_asksAct 55 = .ok (.aload_n 0, 1) := o42 hcX11_asksAct rfl
theorem dX11_asksAct_56 : decode cX11_asksAct 56 = .ok (.bipush 50, 2) := o16 hcX11_asksAct (a := 50) rfl rfl
theorem dX11_asksAct_58 : decode cX11_asksAct 58 = .ok (.invokevirtual 373, 3) := o182 hcX11_asksAct rfl
theorem dX11_asksAct_61 : decode cX11_asksAct 61 = .ok (.aload_n 0, 1) := o42 hcX11_asksAct rfl
theorem dX11_asksAct_62 : decode cX11_asksAct 62 = .ok (.iload_n 1, 1) := o27 hcX11_asksAct rfl
theorem dX11_asksAct_63 : decode cX11_asksAct 63 = .ok (.iload_n 2, 1) := o28 hcX11_asksAct rfl
theorem dX11_asksAct_64 : decode cX11_asksAct 64 = .ok (.invokevirtual 376, 3) := o182 hcX11_asksAct rfl
theorem dX11_asksAct_67 : decode cX11_asksAct 67 = .ok (.ineg, 1) := o116 hcX11_asksAct rfl
theorem dX11_asksAct_68 : decode cX11_asksAct 68 = .ok (.ireturn, 1) := o172 hcX11_asksAct rfl
theorem dX11_asksAct_69 : decode cX11_asksAct 69 = .ok (.aload_n 0, 1) := o42 hcX11_asksAct rfl
theorem dX11_asksAct_70 : decode cX11_asksAct 70 = .ok (.bipush 71, 2) := o16 hcX11_asksAct (a := 71) rfl rfl
theorem dX11_asksAct_72 : decode cX11_asksAct 72 = .ok (.invokevirtual 373, 3) := o182 hcX11_asksAct rfl
theorem dX11_asksAct_75 : decode cX11_asksAct 75 = .ok (.aload_n 0, 1) := o42 hcX11_asksAct rfl
theorem dX11_asksAct_76 : decode cX11_asksAct 76 = .ok (.iload_n 1, 1) := o27 hcX11_asksAct rfl
theorem dX11_asksAct_77 : decode cX11_asksAct 77 = .ok (.iload_n 2, 1) := o28 hcX11_asksAct rfl
theorem dX11_asksAct_78 : decode cX11_asksAct 78 = .ok (.invokevirtual 376, 3) := o182 hcX11_asksAct rfl
theorem dX11_asksAct_81 : decode cX11_asksAct 81 = .ok (.aload_n 0, 1) := o42 hcX11_asksAct rfl
theorem dX11_asksAct_82 : decode cX11_asksAct 82 = .ok (.getfield 20, 3) := o180 hcX11_asksAct rfl
theorem dX11_asksAct_85 : decode cX11_asksAct 85 = .ok (.iload_n 1, 1) := o27 hcX11_asksAct rfl
theorem dX11_asksAct_86 : decode cX11_asksAct 86 = .ok (.iaload, 1) := o46 hcX11_asksAct rfl
theorem dX11_asksAct_87 : decode cX11_asksAct 87 = .ok (.ixor, 1) := o130 hcX11_asksAct rfl
theorem dX11_asksAct_88 : decode cX11_asksAct 88 = .ok (.ireturn, 1) := o172 hcX11_asksAct rfl
theorem dX11_asksAct_89 : decode cX11_asksAct 89 = .ok (.aload_n 0, 1) := o42 hcX11_asksAct rfl
theorem dX11_asksAct_90 : decode cX11_asksAct 90 = .ok (.iload_n 1, 1) := o27 hcX11_asksAct rfl
theorem dX11_asksAct_91 : decode cX11_asksAct 91 = .ok (.iload_n 2, 1) := o28 hcX11_asksAct rfl
theorem dX11_asksAct_92 : decode cX11_asksAct 92 = .ok (.invokevirtual 376, 3) := o182 hcX11_asksAct rfl
theorem dX11_asksAct_95 : decode cX11_asksAct 95 = .ok (.ireturn, 1) := o172 hcX11_asksAct rfl
theorem dX11_houseOpens_0 : decode cX11_houseOpens 0 = .ok (.aload_n 0, 1) := o42 hcX11_houseOpens rfl
theorem dX11_houseOpens_1 : decode cX11_houseOpens 1 = .ok (.bipush 11, 2) := o16 hcX11_houseOpens (a := 11) rfl rfl
theorem dX11_houseOpens_3 : decode cX11_houseOpens 3 = .ok (.invokevirtual 373, 3) := o182 hcX11_houseOpens rfl
theorem dX11_houseOpens_6 : decode cX11_houseOpens 6 = .ok (.aload_n 0, 1) := o42 hcX11_houseOpens rfl
theorem dX11_houseOpens_7 : decode cX11_houseOpens 7 = .ok (.iload_n 1, 1) := o27 hcX11_houseOpens rfl
theorem dX11_houseOpens_8 : decode cX11_houseOpens 8 = .ok (.iload_n 2, 1) := o28 hcX11_houseOpens rfl
theorem dX11_houseOpens_9 : decode cX11_houseOpens 9 = .ok (.invokevirtual 379, 3) := o182 hcX11_houseOpens rfl
theorem dX11_houseOpens_12 : decode cX11_houseOpens 12 = .ok (.aload_n 0, 1) := o42 hcX11_houseOpens rfl
theorem dX11_houseOpens_13 : decode cX11_houseOpens 13 = .ok (.getfield 20, 3) := o180 hcX11_houseOpens rfl
theorem dX11_houseOpens_16 : decode cX11_houseOpens 16 = .ok (.iload_n 1, 1) := o27 hcX11_houseOpens rfl
theorem dX11_houseOpens_17 : decode cX11_houseOpens 17 = .ok (.iaload, 1) := o46 hcX11_houseOpens rfl
theorem dX11_houseOpens_18 : decode cX11_houseOpens 18 = .ok (.isub, 1) := o100 hcX11_houseOpens rfl
theorem dX11_houseOpens_19 : decode cX11_houseOpens 19 = .ok (.ireturn, 1) := o172 hcX11_houseOpens rfl
theorem dX11_lonelyOpens_0 : decode cX11_lonelyOpens 0 = .ok (.aload_n 0, 1) := o42 hcX11_lonelyOpens rfl
theorem dX11_lonelyOpens_1 : decode cX11_lonelyOpens 1 = .ok (.bipush 20, 2) := o16 hcX11_lonelyOpens (a := 20) rfl rfl
theorem dX11_lonelyOpens_3 : decode cX11_lonelyOpens 3 = .ok (.invokevirtual 373, 3) := o182 hcX11_lonelyOpens rfl
theorem dX11_lonelyOpens_6 : decode cX11_lonelyOpens 6 = .ok (.aload_n 0, 1) := o42 hcX11_lonelyOpens rfl
theorem dX11_lonelyOpens_7 : decode cX11_lonelyOpens 7 = .ok (.iload_n 1, 1) := o27 hcX11_lonelyOpens rfl
theorem dX11_lonelyOpens_8 : decode cX11_lonelyOpens 8 = .ok (.iload_n 2, 1) := o28 hcX11_lonelyOpens rfl
theorem dX11_lonelyOpens_9 : decode cX11_lonelyOpens 9 = .ok (.invokevirtual 382, 3) := o182 hcX11_lonelyOpens rfl
theorem dX11_lonelyOpens_12 : decode cX11_lonelyOpens 12 = .ok (.bipush 6, 2) := o16 hcX11_lonelyOpens (a := 6) rfl rfl
theorem dX11_lonelyOpens_14 : decode cX11_lonelyOpens 14 = .ok (.ixor, 1) := o130 hcX11_lonelyOpens rfl
theorem dX11_lonelyOpens_15 : decode cX11_lonelyOpens 15 = .ok (.ireturn, 1) := o172 hcX11_lonelyOpens rfl
theorem dX11_opensAct_0 : decode cX11_opensAct 0 = .ok (.aload_n 0, 1) := o42 hcX11_opensAct rfl
theorem dX11_opensAct_1 : decode cX11_opensAct 1 = .ok (.getfield 16, 3) := o180 hcX11_opensAct rfl
theorem dX11_opensAct_4 : decode cX11_opensAct 4 = .ok (.iload_n 1, 1) := o27 hcX11_opensAct rfl
theorem dX11_opensAct_5 : decode cX11_opensAct 5 = .ok (.iaload, 1) := o46 hcX11_opensAct rfl
theorem dX11_opensAct_6 : decode cX11_opensAct 6 = .ok (.lookupswitch 78 #[(1, 34), (4, 41), (6, 56)], 34) := by decide +kernel
theorem dX11_opensAct_40 : decode cX11_opensAct 40 = .ok (.aload_n 0, 1) := o42 hcX11_opensAct rfl
theorem dX11_opensAct_41 : decode cX11_opensAct 41 = .ok (.iload_n 1, 1) := o27 hcX11_opensAct rfl
theorem dX11_opensAct_42 : decode cX11_opensAct 42 = .ok (.iload_n 2, 1) := o28 hcX11_opensAct rfl
theorem dX11_opensAct_43 : decode cX11_opensAct 43 = .ok (.invokevirtual 385, 3) := o182 hcX11_opensAct rfl
theorem dX11_opensAct_46 : decode cX11_opensAct 46 = .ok (.ireturn, 1) := o172 hcX11_opensAct rfl
theorem dX11_opensAct_47 : decode cX11_opensAct 47 = .ok (.aload_n 0, 1) := o42 hcX11_opensAct rfl
theorem dX11_opensAct_48 : decode cX11_opensAct 48 = .ok (.bipush 51, 2) := o16 hcX11_opensAct (a := 51) rfl rfl
theorem dX11_opensAct_50 : decode cX11_opensAct 50 = .ok (.invokevirtual 373, 3) := o182 hcX11_opensAct rfl
theorem dX11_opensAct_53 : decode cX11_opensAct 53 = .ok (.aload_n 0, 1) := o42 hcX11_opensAct rfl
theorem dX11_opensAct_54 : decode cX11_opensAct 54 = .ok (.iload_n 1, 1) := o27 hcX11_opensAct rfl
theorem dX11_opensAct_55 : decode cX11_opensAct 55 = .ok (.iload_n 2, 1) := o28 hcX11_opensAct rfl
theorem dX11_opensAct_56 : decode cX11_opensAct 56 = .ok (.iconst 1, 1) := o4 hcX11_opensAct rfl
theorem dX11_opensAct_57 : decode cX11_opensAct 57 = .ok (.iadd, 1) := o96 hcX11_opensAct rfl
theorem dX11_opensAct_58 : decode cX11_opensAct 58 = .ok (.invokevirtual 385, 3) := o182 hcX11_opensAct rfl
theorem dX11_opensAct_61 : decode cX11_opensAct 61 = .ok (.ireturn, 1) := o172 hcX11_opensAct rfl
theorem dX11_opensAct_62 : decode cX11_opensAct 62 = .ok (.aload_n 0, 1) := o42 hcX11_opensAct rfl
theorem dX11_opensAct_63 : decode cX11_opensAct 63 = .ok (.bipush 70, 2) := o16 hcX11_opensAct (a := 70) rfl rfl
theorem dX11_opensAct_65 : decode cX11_opensAct 65 = .ok (.invokevirtual 373, 3) := o182 hcX11_opensAct rfl
theorem dX11_opensAct_68 : decode cX11_opensAct 68 = .ok (.aload_n 0, 1) := o42 hcX11_opensAct rfl
theorem dX11_opensAct_69 : decode cX11_opensAct 69 = .ok (.iload_n 1, 1) := o27 hcX11_opensAct rfl
theorem dX11_opensAct_70 : decode cX11_opensAct 70 = .ok (.iload_n 2, 1) := o28 hcX11_opensAct rfl
theorem dX11_opensAct_71 : decode cX11_opensAct 71 = .ok (.invokevirtual 382, 3) := o182 hcX11_opensAct rfl
theorem dX11_opensAct_74 : decode cX11_opensAct 74 = .ok (.istore_n 3, 1) := o62 hcX11_opensAct rfl
theorem dX11_opensAct_75 : decode cX11_opensAct 75 = .ok (.iload_n 3, 1) := o29 hcX11_opensAct rfl
theorem dX11_opensAct_76 : decode cX11_opensAct 76 = .ok (.aload_n 0, 1) := o42 hcX11_opensAct rfl
theorem dX11_opensAct_77 : decode cX11_opensAct 77 = .ok (.iload_n 1, 1) := o27 hcX11_opensAct rfl
theorem dX11_opensAct_78 : decode cX11_opensAct 78 = .ok (.iconst 2, 1) := o5 hcX11_opensAct rfl
theorem dX11_opensAct_79 : decode cX11_opensAct 79 = .ok (.invokevirtual 376, 3) := o182 hcX11_opensAct rfl
theorem dX11_opensAct_82 : decode cX11_opensAct 82 = .ok (.iadd, 1) := o96 hcX11_opensAct rfl
theorem dX11_opensAct_83 : decode cX11_opensAct 83 = .ok (.ireturn, 1) := o172 hcX11_opensAct rfl
theorem dX11_opensAct_84 : decode cX11_opensAct 84 = .ok (.aload_n 0, 1) := o42 hcX11_opensAct rfl
theorem dX11_opensAct_85 : decode cX11_opensAct 85 = .ok (.iload_n 1, 1) := o27 hcX11_opensAct rfl
theorem dX11_opensAct_86 : decode cX11_opensAct 86 = .ok (.iload_n 2, 1) := o28 hcX11_opensAct rfl
theorem dX11_opensAct_87 : decode cX11_opensAct 87 = .ok (.invokevirtual 382, 3) := o182 hcX11_opensAct rfl
theorem dX11_opensAct_90 : decode cX11_opensAct 90 = .ok (.ireturn, 1) := o172 hcX11_opensAct rfl
theorem dX11_houseTells_0 : decode cX11_houseTells 0 = .ok (.aload_n 0, 1) := o42 hcX11_houseTells rfl
theorem dX11_houseTells_1 : decode cX11_houseTells 1 = .ok (.bipush 12, 2) := o16 hcX11_houseTells (a := 12) rfl rfl
theorem dX11_houseTells_3 : decode cX11_houseTells 3 = .ok (.invokevirtual 373, 3) := o182 hcX11_houseTells rfl
theorem dX11_houseTells_6 : decode cX11_houseTells 6 = .ok (.aload_n 0, 1) := o42 hcX11_houseTells rfl
theorem dX11_houseTells_7 : decode cX11_houseTells 7 = .ok (.iload_n 1, 1) := o27 hcX11_houseTells rfl
theorem dX11_houseTells_8 : decode cX11_houseTells 8 = .ok (.iload_n 2, 1) := o28 hcX11_houseTells rfl
theorem dX11_houseTells_9 : decode cX11_houseTells 9 = .ok (.invokevirtual 388, 3) := o182 hcX11_houseTells rfl
theorem dX11_houseTells_12 : decode cX11_houseTells 12 = .ok (.iconst 2, 1) := o5 hcX11_houseTells rfl
theorem dX11_houseTells_13 : decode cX11_houseTells 13 = .ok (.imul, 1) := o104 hcX11_houseTells rfl
theorem dX11_houseTells_14 : decode cX11_houseTells 14 = .ok (.ireturn, 1) := o172 hcX11_houseTells rfl
theorem dX11_tellsAct_0 : decode cX11_tellsAct 0 = .ok (.aload_n 0, 1) := o42 hcX11_tellsAct rfl
theorem dX11_tellsAct_1 : decode cX11_tellsAct 1 = .ok (.getfield 16, 3) := o180 hcX11_tellsAct rfl
theorem dX11_tellsAct_4 : decode cX11_tellsAct 4 = .ok (.iload_n 1, 1) := o27 hcX11_tellsAct rfl
theorem dX11_tellsAct_5 : decode cX11_tellsAct 5 = .ok (.iaload, 1) := o46 hcX11_tellsAct rfl
theorem dX11_tellsAct_6 : decode cX11_tellsAct 6 = .ok (.tableswitch 67 3 6 #[30, 67, 52, 30], 30) := by decide +kernel
theorem dX11_tellsAct_36 : decode cX11_tellsAct 36 = .ok (.aload_n 0, 1) := o42 hcX11_tellsAct rfl
theorem dX11_tellsAct_37 : decode cX11_tellsAct 37 = .ok (.bipush 40, 2) := o16 hcX11_tellsAct (a := 40) rfl rfl
theorem dX11_tellsAct_39 : decode cX11_tellsAct 39 = .ok (.invokevirtual 373, 3) := o182 hcX11_tellsAct rfl
theorem dX11_tellsAct_42 : decode cX11_tellsAct 42 = .ok (.aload_n 0, 1) := o42 hcX11_tellsAct rfl
theorem dX11_tellsAct_43 : decode cX11_tellsAct 43 = .ok (.iload_n 1, 1) := o27 hcX11_tellsAct rfl
theorem dX11_tellsAct_44 : decode cX11_tellsAct 44 = .ok (.iload_n 2, 1) := o28 hcX11_tellsAct rfl
theorem dX11_tellsAct_45 : decode cX11_tellsAct 45 = .ok (.invokevirtual 391, 3) := o182 hcX11_tellsAct rfl
theorem dX11_tellsAct_48 : decode cX11_tellsAct 48 = .ok (.istore_n 3, 1) := o62 hcX11_tellsAct rfl
theorem dX11_tellsAct_49 : decode cX11_tellsAct 49 = .ok (.iload_n 3, 1) := o29 hcX11_tellsAct rfl
theorem dX11_tellsAct_50 : decode cX11_tellsAct 50 = .ok (.aload_n 0, 1) := o42 hcX11_tellsAct rfl
theorem dX11_tellsAct_51 : decode cX11_tellsAct 51 = .ok (.iload_n 1, 1) := o27 hcX11_tellsAct rfl
theorem dX11_tellsAct_52 : decode cX11_tellsAct 52 = .ok (.iconst 1, 1) := o4 hcX11_tellsAct rfl
theorem dX11_tellsAct_53 : decode cX11_tellsAct 53 = .ok (.invokevirtual 388, 3) := o182 hcX11_tellsAct rfl
theorem dX11_tellsAct_56 : decode cX11_tellsAct 56 = .ok (.iadd, 1) := o96 hcX11_tellsAct rfl
theorem dX11_tellsAct_57 : decode cX11_tellsAct 57 = .ok (.ireturn, 1) := o172 hcX11_tellsAct rfl
theorem dX11_tellsAct_58 : decode cX11_tellsAct 58 = .ok (.aload_n 0, 1) := o42 hcX11_tellsAct rfl
theorem dX11_tellsAct_59 : decode cX11_tellsAct 59 = .ok (.bipush 60, 2) := o16 hcX11_tellsAct (a := 60) rfl rfl
theorem dX11_tellsAct_61 : decode cX11_tellsAct 61 = .ok (.invokevirtual 373, 3) := o182 hcX11_tellsAct rfl
theorem dX11_tellsAct_64 : decode cX11_tellsAct 64 = .ok (.aload_n 0, 1) := o42 hcX11_tellsAct rfl
theorem dX11_tellsAct_65 : decode cX11_tellsAct 65 = .ok (.iload_n 1, 1) := o27 hcX11_tellsAct rfl
theorem dX11_tellsAct_66 : decode cX11_tellsAct 66 = .ok (.iload_n 2, 1) := o28 hcX11_tellsAct rfl
theorem dX11_tellsAct_67 : decode cX11_tellsAct 67 = .ok (.iload_n 1, 1) := o27 hcX11_tellsAct rfl
theorem dX11_tellsAct_68 : decode cX11_tellsAct 68 = .ok (.isub, 1) := o100 hcX11_tellsAct rfl
theorem dX11_tellsAct_69 : decode cX11_tellsAct 69 = .ok (.invokevirtual 391, 3) := o182 hcX11_tellsAct rfl
theorem dX11_tellsAct_72 : decode cX11_tellsAct 72 = .ok (.ireturn, 1) := o172 hcX11_tellsAct rfl
theorem dX11_tellsAct_73 : decode cX11_tellsAct 73 = .ok (.aload_n 0, 1) := o42 hcX11_tellsAct rfl
theorem dX11_tellsAct_74 : decode cX11_tellsAct 74 = .ok (.iload_n 1, 1) := o27 hcX11_tellsAct rfl
theorem dX11_tellsAct_75 : decode cX11_tellsAct 75 = .ok (.iload_n 2, 1) := o28 hcX11_tellsAct rfl
theorem dX11_tellsAct_76 : decode cX11_tellsAct 76 = .ok (.invokevirtual 391, 3) := o182 hcX11_tellsAct rfl
theorem dX11_tellsAct_79 : decode cX11_tellsAct 79 = .ok (.ireturn, 1) := o172 hcX11_tellsAct rfl
theorem dX11_act_0 : decode cX11_act 0 = .ok (.aload_n 0, 1) := o42 hcX11_act rfl
theorem dX11_act_1 : decode cX11_act 1 = .ok (.iconst 0, 1) := o3 hcX11_act rfl
theorem dX11_act_2 : decode cX11_act 2 = .ok (.putfield 205, 3) := o181 hcX11_act rfl
theorem dX11_act_5 : decode cX11_act 5 = .ok (.aload_n 0, 1) := o42 hcX11_act rfl
theorem dX11_act_6 : decode cX11_act 6 = .ok (.iload_n 1, 1) := o27 hcX11_act rfl
theorem dX11_act_7 : decode cX11_act 7 = .ok (.invokevirtual 232, 3) := o182 hcX11_act rfl
theorem dX11_act_10 : decode cX11_act 10 = .ok (.ifCond .eq 13, 3) := o153 hcX11_act (a := 13) rfl rfl
theorem dX11_act_13 : decode cX11_act 13 = .ok (.aload_n 0, 1) := o42 hcX11_act rfl
theorem dX11_act_14 : decode cX11_act 14 = .ok (.iload_n 2, 1) := o28 hcX11_act rfl
theorem dX11_act_15 : decode cX11_act 15 = .ok (.iconst 0, 1) := o3 hcX11_act rfl
theorem dX11_act_16 : decode cX11_act 16 = .ok (.iconst 2, 1) := o5 hcX11_act rfl
theorem dX11_act_17 : decode cX11_act 17 = .ok (.invokevirtual 224, 3) := o182 hcX11_act rfl
theorem dX11_act_20 : decode cX11_act 20 = .ok (.ifCond .ne 5, 3) := o154 hcX11_act (a := 5) rfl rfl
theorem dX11_act_23 : decode cX11_act 23 = .ok (.iconst 0, 1) := o3 hcX11_act rfl
theorem dX11_act_24 : decode cX11_act 24 = .ok (.ireturn, 1) := o172 hcX11_act rfl
theorem dX11_act_25 : decode cX11_act 25 = .ok (.iload_n 2, 1) := o28 hcX11_act rfl
theorem dX11_act_26 : decode cX11_act 26 = .ok (.ifCond .ne 12, 3) := o154 hcX11_act (a := 12) rfl rfl
theorem dX11_act_29 : decode cX11_act 29 = .ok (.aload_n 0, 1) := o42 hcX11_act rfl
theorem dX11_act_30 : decode cX11_act 30 = .ok (.iload_n 1, 1) := o27 hcX11_act rfl
theorem dX11_act_31 : decode cX11_act 31 = .ok (.iload_n 3, 1) := o29 hcX11_act rfl
theorem dX11_act_32 : decode cX11_act 32 = .ok (.invokevirtual 379, 3) := o182 hcX11_act rfl
theorem dX11_act_35 : decode cX11_act 35 = .ok (.goto 23, 3) := o167 hcX11_act (a := 23) rfl rfl
theorem dX11_act_38 : decode cX11_act 38 = .ok (.iload_n 2, 1) := o28 hcX11_act rfl
theorem dX11_act_39 : decode cX11_act 39 = .ok (.iconst 1, 1) := o4 hcX11_act rfl
theorem dX11_act_40 : decode cX11_act 40 = .ok (.if_icmp .ne 12, 3) := o160 hcX11_act (a := 12) rfl rfl
theorem dX11_act_43 : decode cX11_act 43 = .ok (.aload_n 0, 1) := o42 hcX11_act rfl
theorem dX11_act_44 : decode cX11_act 44 = .ok (.iload_n 1, 1) := o27 hcX11_act rfl
theorem dX11_act_45 : decode cX11_act 45 = .ok (.iload_n 3, 1) := o29 hcX11_act rfl
theorem dX11_act_46 : decode cX11_act 46 = .ok (.invokevirtual 388, 3) := o182 hcX11_act rfl
theorem dX11_act_49 : decode cX11_act 49 = .ok (.goto 9, 3) := o167 hcX11_act (a := 9) rfl rfl
theorem dX11_act_52 : decode cX11_act 52 = .ok (.aload_n 0, 1) := o42 hcX11_act rfl
theorem dX11_act_53 : decode cX11_act 53 = .ok (.iload_n 1, 1) := o27 hcX11_act rfl
theorem dX11_act_54 : decode cX11_act 54 = .ok (.iload_n 3, 1) := o29 hcX11_act rfl
theorem dX11_act_55 : decode cX11_act 55 = .ok (.invokevirtual 394, 3) := o182 hcX11_act rfl
theorem dX11_act_58 : decode cX11_act 58 = .ok (.ireturn, 1) := o172 hcX11_act rfl
theorem dX11_trace_0 : decode cX11_trace 0 = .ok (.aload_n 0, 1) := o42 hcX11_trace rfl
theorem dX11_trace_1 : decode cX11_trace 1 = .ok (.iload_n 1, 1) := o27 hcX11_trace rfl
theorem dX11_trace_2 : decode cX11_trace 2 = .ok (.iconst 0, 1) := o3 hcX11_trace rfl
theorem dX11_trace_3 : decode cX11_trace 3 = .ok (.bipush 19, 2) := o16 hcX11_trace (a := 19) rfl rfl
theorem dX11_trace_5 : decode cX11_trace 5 = .ok (.invokevirtual 224, 3) := o182 hcX11_trace rfl
theorem dX11_trace_8 : decode cX11_trace 8 = .ok (.ifCond .eq 20, 3) := o153 hcX11_trace (a := 20) rfl rfl
theorem dX11_trace_11 : decode cX11_trace 11 = .ok (.iload_n 1, 1) := o27 hcX11_trace rfl
theorem dX11_trace_12 : decode cX11_trace 12 = .ok (.aload_n 0, 1) := o42 hcX11_trace rfl
theorem dX11_trace_13 : decode cX11_trace 13 = .ok (.getfield 205, 3) := o180 hcX11_trace rfl
theorem dX11_trace_16 : decode cX11_trace 16 = .ok (.if_icmp .ge 12, 3) := o162 hcX11_trace (a := 12) rfl rfl
theorem dX11_trace_19 : decode cX11_trace 19 = .ok (.aload_n 0, 1) := o42 hcX11_trace rfl
theorem dX11_trace_20 : decode cX11_trace 20 = .ok (.getfield 208, 3) := o180 hcX11_trace rfl
theorem dX11_trace_23 : decode cX11_trace 23 = .ok (.iload_n 1, 1) := o27 hcX11_trace rfl
theorem dX11_trace_24 : decode cX11_trace 24 = .ok (.iaload, 1) := o46 hcX11_trace rfl
theorem dX11_trace_25 : decode cX11_trace 25 = .ok (.goto 4, 3) := o167 hcX11_trace (a := 4) rfl rfl
theorem dX11_trace_28 : decode cX11_trace 28 = .ok (.iconst (-1), 1) := o2 hcX11_trace rfl
theorem dX11_trace_29 : decode cX11_trace 29 = .ok (.ireturn, 1) := o172 hcX11_trace rfl
theorem dX11_taken_0 : decode cX11_taken 0 = .ok (.aload_n 0, 1) := o42 hcX11_taken rfl
theorem dX11_taken_1 : decode cX11_taken 1 = .ok (.iload_n 2, 1) := o28 hcX11_taken rfl
theorem dX11_taken_2 : decode cX11_taken 2 = .ok (.iconst 0, 1) := o3 hcX11_taken rfl
theorem dX11_taken_3 : decode cX11_taken 3 = .ok (.bipush 6, 2) := o16 hcX11_taken (a := 6) rfl rfl
theorem dX11_taken_5 : decode cX11_taken 5 = .ok (.invokevirtual 224, 3) := o182 hcX11_taken rfl
theorem dX11_taken_8 : decode cX11_taken 8 = .ok (.ifCond .ne 6, 3) := o154 hcX11_taken (a := 6) rfl rfl
theorem dX11_taken_11 : decode cX11_taken 11 = .ok (.bipush (-2), 2) := o16 hcX11_taken (a := 254) rfl rfl
theorem dX11_taken_13 : decode cX11_taken 13 = .ok (.ireturn, 1) := o172 hcX11_taken rfl
theorem dX11_taken_14 : decode cX11_taken 14 = .ok (.aload_n 0, 1) := o42 hcX11_taken rfl
theorem dX11_taken_15 : decode cX11_taken 15 = .ok (.iload_n 1, 1) := o27 hcX11_taken rfl
theorem dX11_taken_16 : decode cX11_taken 16 = .ok (.invokevirtual 232, 3) := o182 hcX11_taken rfl
theorem dX11_taken_19 : decode cX11_taken 19 = .ok (.ifCond .ne 6, 3) := o154 hcX11_taken (a := 6) rfl rfl
theorem dX11_taken_22 : decode cX11_taken 22 = .ok (.bipush (-11), 2) := o16 hcX11_taken (a := 245) rfl rfl
theorem dX11_taken_24 : decode cX11_taken 24 = .ok (.ireturn, 1) := o172 hcX11_taken rfl
theorem dX11_taken_25 : decode cX11_taken 25 = .ok (.aload_n 0, 1) := o42 hcX11_taken rfl
theorem dX11_taken_26 : decode cX11_taken 26 = .ok (.getfield 16, 3) := o180 hcX11_taken rfl
theorem dX11_taken_29 : decode cX11_taken 29 = .ok (.iload_n 1, 1) := o27 hcX11_taken rfl
theorem dX11_taken_30 : decode cX11_taken 30 = .ok (.iaload, 1) := o46 hcX11_taken rfl
theorem dX11_taken_31 : decode cX11_taken 31 = .ok (.istore_n 3, 1) := o62 hcX11_taken rfl
theorem dX11_taken_32 : decode cX11_taken 32 = .ok (.iload_n 2, 1) := o28 hcX11_taken rfl
theorem dX11_taken_33 : decode cX11_taken 33 = .ok (.ifCond .eq 39, 3) := o153 hcX11_taken (a := 39) rfl rfl
theorem dX11_taken_36 : decode cX11_taken 36 = .ok (.iload_n 3, 1) := o29 hcX11_taken rfl
theorem dX11_taken_37 : decode cX11_taken 37 = .ok (.iload_n 2, 1) := o28 hcX11_taken rfl
theorem dX11_taken_38 : decode cX11_taken 38 = .ok (.if_icmp .eq 34, 3) := o159 hcX11_taken (a := 34) rfl rfl
theorem dX11_taken_41 : decode cX11_taken 41 = .ok (.iload_n 2, 1) := o28 hcX11_taken rfl
theorem dX11_taken_42 : decode cX11_taken 42 = .ok (.iconst 1, 1) := o4 hcX11_taken rfl
theorem dX11_taken_43 : decode cX11_taken 43 = .ok (.if_icmp .ne 8, 3) := o160 hcX11_taken (a := 8) rfl rfl
theorem dX11_taken_46 : decode cX11_taken 46 = .ok (.iload_n 3, 1) := o29 hcX11_taken rfl
theorem dX11_taken_47 : decode cX11_taken 47 = .ok (.iconst 4, 1) := o7 hcX11_taken rfl
theorem dX11_taken_48 : decode cX11_taken 48 = .ok (.if_icmp .eq 24, 3) := o159 hcX11_taken (a := 24) rfl rfl
theorem dX11_taken_51 : decode cX11_taken 51 = .ok (.iload_n 2, 1) := o28 hcX11_taken rfl
theorem dX11_taken_52 : decode cX11_taken 52 = .ok (.iconst 2, 1) := o5 hcX11_taken rfl
theorem dX11_taken_53 : decode cX11_taken 53 = .ok (.if_icmp .ne 8, 3) := o160 hcX11_taken (a := 8) rfl rfl
theorem dX11_taken_56 : decode cX11_taken 56 = .ok (.iload_n 3, 1) := o29 hcX11_taken rfl
theorem dX11_taken_57 : decode cX11_taken 57 = .ok (.iconst 5, 1) := o8 hcX11_taken rfl
theorem dX11_taken_58 : decode cX11_taken 58 = .ok (.if_icmp .eq 14, 3) := o159 hcX11_taken (a := 14) rfl rfl
theorem dX11_taken_61 : decode cX11_taken 61 = .ok (.iload_n 2, 1) := o28 hcX11_taken rfl
theorem dX11_taken_62 : decode cX11_taken 62 = .ok (.iconst 3, 1) := o6 hcX11_taken rfl
theorem dX11_taken_63 : decode cX11_taken 63 = .ok (.if_icmp .ne 13, 3) := o160 hcX11_taken (a := 13) rfl rfl
theorem dX11_taken_66 : decode cX11_taken 66 = .ok (.iload_n 3, 1) := o29 hcX11_taken rfl
theorem dX11_taken_67 : decode cX11_taken 67 = .ok (.bipush 6, 2) := o16 hcX11_taken (a := 6) rfl rfl
theorem dX11_taken_69 : decode cX11_taken 69 = .ok (.if_icmp .ne 7, 3) := o160 hcX11_taken (a := 7) rfl rfl
theorem dX11_taken_72 : decode cX11_taken 72 = .ok (.iload_n 3, 1) := o29 hcX11_taken rfl
theorem dX11_taken_73 : decode cX11_taken 73 = .ok (.goto 5, 3) := o167 hcX11_taken (a := 5) rfl rfl
theorem dX11_taken_76 : decode cX11_taken 76 = .ok (.bipush (-12), 2) := o16 hcX11_taken (a := 244) rfl rfl
theorem dX11_taken_78 : decode cX11_taken 78 = .ok (.ireturn, 1) := o172 hcX11_taken rfl
theorem dX11_count_0 : decode cX11_count 0 = .ok (.iload_n 1, 1) := o27 hcX11_count rfl
theorem dX11_count_1 : decode cX11_count 1 = .ok (.tableswitch 87 0 7 #[47, 52, 57, 62, 67, 72, 77, 82], 47) := by decide +kernel
theorem dX11_count_48 : decode cX11_count 48 = .ok (.aload_n 0, 1) := o42 hcX11_count rfl
theorem dX11_count_49 : decode cX11_count 49 = .ok (.getfield 7, 3) := o180 hcX11_count rfl
theorem dX11_count_52 : decode cX11_count 52 = .ok (.ireturn, 1) := o172 hcX11_count rfl
theorem dX11_count_53 : decode cX11_count 53 = .ok (.aload_n 0, 1) := o42 hcX11_count rfl
theorem dX11_count_54 : decode cX11_count 54 = .ok (.getfield 13, 3) := o180 hcX11_count rfl
theorem dX11_count_57 : decode cX11_count 57 = .ok (.ireturn, 1) := o172 hcX11_count rfl
theorem dX11_count_58 : decode cX11_count 58 = .ok (.aload_n 0, 1) := o42 hcX11_count rfl
theorem dX11_count_59 : decode cX11_count 59 = .ok (.getfield 41, 3) := o180 hcX11_count rfl
theorem dX11_count_62 : decode cX11_count 62 = .ok (.ireturn, 1) := o172 hcX11_count rfl
theorem dX11_count_63 : decode cX11_count 63 = .ok (.aload_n 0, 1) := o42 hcX11_count rfl
theorem dX11_count_64 : decode cX11_count 64 = .ok (.getfield 114, 3) := o180 hcX11_count rfl
theorem dX11_count_67 : decode cX11_count 67 = .ok (.ireturn, 1) := o172 hcX11_count rfl
theorem dX11_count_68 : decode cX11_count 68 = .ok (.aload_n 0, 1) := o42 hcX11_count rfl
theorem dX11_count_69 : decode cX11_count 69 = .ok (.getfield 126, 3) := o180 hcX11_count rfl
theorem dX11_count_72 : decode cX11_count 72 = .ok (.ireturn, 1) := o172 hcX11_count rfl
theorem dX11_count_73 : decode cX11_count 73 = .ok (.aload_n 0, 1) := o42 hcX11_count rfl
theorem dX11_count_74 : decode cX11_count 74 = .ok (.getfield 135, 3) := o180 hcX11_count rfl
theorem dX11_count_77 : decode cX11_count 77 = .ok (.ireturn, 1) := o172 hcX11_count rfl
theorem dX11_count_78 : decode cX11_count 78 = .ok (.aload_n 0, 1) := o42 hcX11_count rfl
theorem dX11_count_79 : decode cX11_count 79 = .ok (.getfield 47, 3) := o180 hcX11_count rfl
theorem dX11_count_82 : decode cX11_count 82 = .ok (.ireturn, 1) := o172 hcX11_count rfl
theorem dX11_count_83 : decode cX11_count 83 = .ok (.aload_n 0, 1) := o42 hcX11_count rfl
theorem dX11_count_84 : decode cX11_count 84 = .ok (.getfield 205, 3) := o180 hcX11_count rfl
theorem dX11_count_87 : decode cX11_count 87 = .ok (.ireturn, 1) := o172 hcX11_count rfl
theorem dX11_count_88 : decode cX11_count 88 = .ok (.bipush (-2), 2) := o16 hcX11_count (a := 254) rfl rfl
theorem dX11_count_90 : decode cX11_count 90 = .ok (.ireturn, 1) := o172 hcX11_count rfl
theorem dX11_isTape_0 : decode cX11_isTape 0 = .ok (.aload_n 0, 1) := o42 hcX11_isTape rfl
theorem dX11_isTape_1 : decode cX11_isTape 1 = .ok (.iload_n 1, 1) := o27 hcX11_isTape rfl
theorem dX11_isTape_2 : decode cX11_isTape 2 = .ok (.iconst 0, 1) := o3 hcX11_isTape rfl
theorem dX11_isTape_3 : decode cX11_isTape 3 = .ok (.iconst 5, 1) := o8 hcX11_isTape rfl
theorem dX11_isTape_4 : decode cX11_isTape 4 = .ok (.invokevirtual 224, 3) := o182 hcX11_isTape rfl
theorem dX11_isTape_7 : decode cX11_isTape 7 = .ok (.ireturn, 1) := o172 hcX11_isTape rfl
theorem dX11_tape_0 : decode cX11_tape 0 = .ok (.aload_n 0, 1) := o42 hcX11_tape rfl
theorem dX11_tape_1 : decode cX11_tape 1 = .ok (.iload_n 1, 1) := o27 hcX11_tape rfl
theorem dX11_tape_2 : decode cX11_tape 2 = .ok (.invokevirtual 370, 3) := o182 hcX11_tape rfl
theorem dX11_tape_5 : decode cX11_tape 5 = .ok (.ifCond .ne 5, 3) := o154 hcX11_tape (a := 5) rfl rfl
theorem dX11_tape_8 : decode cX11_tape 8 = .ok (.iconst (-1), 1) := o2 hcX11_tape rfl
theorem dX11_tape_9 : decode cX11_tape 9 = .ok (.ireturn, 1) := o172 hcX11_tape rfl
theorem dX11_tape_10 : decode cX11_tape 10 = .ok (.aload_n 0, 1) := o42 hcX11_tape rfl
theorem dX11_tape_11 : decode cX11_tape 11 = .ok (.iload_n 2, 1) := o28 hcX11_tape rfl
theorem dX11_tape_12 : decode cX11_tape 12 = .ok (.iconst (-1), 1) := o2 hcX11_tape rfl
theorem dX11_tape_13 : decode cX11_tape 13 = .ok (.iconst 4, 1) := o7 hcX11_tape rfl
theorem dX11_tape_14 : decode cX11_tape 14 = .ok (.invokevirtual 224, 3) := o182 hcX11_tape rfl
theorem dX11_tape_17 : decode cX11_tape 17 = .ok (.ifCond .eq 13, 3) := o153 hcX11_tape (a := 13) rfl rfl
theorem dX11_tape_20 : decode cX11_tape 20 = .ok (.iload_n 2, 1) := o28 hcX11_tape rfl
theorem dX11_tape_21 : decode cX11_tape 21 = .ok (.ifCond .lt 12, 3) := o155 hcX11_tape (a := 12) rfl rfl
theorem dX11_tape_24 : decode cX11_tape 24 = .ok (.iload_n 3, 1) := o29 hcX11_tape rfl
theorem dX11_tape_25 : decode cX11_tape 25 = .ok (.bipush 60, 2) := o16 hcX11_tape (a := 60) rfl rfl
theorem dX11_tape_27 : decode cX11_tape 27 = .ok (.if_icmp .le 6, 3) := o164 hcX11_tape (a := 6) rfl rfl
theorem dX11_tape_30 : decode cX11_tape 30 = .ok (.bipush (-2), 2) := o16 hcX11_tape (a := 254) rfl rfl
theorem dX11_tape_32 : decode cX11_tape 32 = .ok (.ireturn, 1) := o172 hcX11_tape rfl
theorem dX11_tape_33 : decode cX11_tape 33 = .ok (.iload_n 2, 1) := o28 hcX11_tape rfl
theorem dX11_tape_34 : decode cX11_tape 34 = .ok (.ifCond .lt 10, 3) := o155 hcX11_tape (a := 10) rfl rfl
theorem dX11_tape_37 : decode cX11_tape 37 = .ok (.iload_n 3, 1) := o29 hcX11_tape rfl
theorem dX11_tape_38 : decode cX11_tape 38 = .ok (.ifCond .ge 6, 3) := o156 hcX11_tape (a := 6) rfl rfl
theorem dX11_tape_41 : decode cX11_tape 41 = .ok (.bipush (-14), 2) := o16 hcX11_tape (a := 242) rfl rfl
theorem dX11_tape_43 : decode cX11_tape 43 = .ok (.ireturn, 1) := o172 hcX11_tape rfl
theorem dX11_tape_44 : decode cX11_tape 44 = .ok (.aload_n 0, 1) := o42 hcX11_tape rfl
theorem dX11_tape_45 : decode cX11_tape 45 = .ok (.getfield 211, 3) := o180 hcX11_tape rfl
theorem dX11_tape_48 : decode cX11_tape 48 = .ok (.iload_n 1, 1) := o27 hcX11_tape rfl
theorem dX11_tape_49 : decode cX11_tape 49 = .ok (.iload_n 2, 1) := o28 hcX11_tape rfl
theorem dX11_tape_50 : decode cX11_tape 50 = .ok (.iastore, 1) := o79 hcX11_tape rfl
theorem dX11_tape_51 : decode cX11_tape 51 = .ok (.aload_n 0, 1) := o42 hcX11_tape rfl
theorem dX11_tape_52 : decode cX11_tape 52 = .ok (.getfield 214, 3) := o180 hcX11_tape rfl
theorem dX11_tape_55 : decode cX11_tape 55 = .ok (.iload_n 1, 1) := o27 hcX11_tape rfl
theorem dX11_tape_56 : decode cX11_tape 56 = .ok (.iload_n 2, 1) := o28 hcX11_tape rfl
theorem dX11_tape_57 : decode cX11_tape 57 = .ok (.ifCond .ge 7, 3) := o156 hcX11_tape (a := 7) rfl rfl
theorem dX11_tape_60 : decode cX11_tape 60 = .ok (.iconst 0, 1) := o3 hcX11_tape rfl
theorem dX11_tape_61 : decode cX11_tape 61 = .ok (.goto 4, 3) := o167 hcX11_tape (a := 4) rfl rfl
theorem dX11_tape_64 : decode cX11_tape 64 = .ok (.iload_n 3, 1) := o29 hcX11_tape rfl
theorem dX11_tape_65 : decode cX11_tape 65 = .ok (.iastore, 1) := o79 hcX11_tape rfl
theorem dX11_tape_66 : decode cX11_tape 66 = .ok (.iconst 0, 1) := o3 hcX11_tape rfl
theorem dX11_tape_67 : decode cX11_tape 67 = .ok (.istore 4, 2) := o54 hcX11_tape rfl
theorem dX11_tape_69 : decode cX11_tape 69 = .ok (.iload 4, 2) := o21 hcX11_tape rfl
theorem dX11_tape_71 : decode cX11_tape 71 = .ok (.bipush 60, 2) := o16 hcX11_tape (a := 60) rfl rfl
theorem dX11_tape_73 : decode cX11_tape 73 = .ok (.if_icmp .ge 22, 3) := o162 hcX11_tape (a := 22) rfl rfl
theorem dX11_tape_76 : decode cX11_tape 76 = .ok (.aload_n 0, 1) := o42 hcX11_tape rfl
theorem dX11_tape_77 : decode cX11_tape 77 = .ok (.getfield 217, 3) := o180 hcX11_tape rfl
theorem dX11_tape_80 : decode cX11_tape 80 = .ok (.bipush 60, 2) := o16 hcX11_tape (a := 60) rfl rfl
theorem dX11_tape_82 : decode cX11_tape 82 = .ok (.iload_n 1, 1) := o27 hcX11_tape rfl
theorem dX11_tape_83 : decode cX11_tape 83 = .ok (.imul, 1) := o104 hcX11_tape rfl
theorem dX11_tape_84 : decode cX11_tape 84 = .ok (.iload 4, 2) := o21 hcX11_tape rfl
theorem dX11_tape_86 : decode cX11_tape 86 = .ok (.iadd, 1) := o96 hcX11_tape rfl
theorem dX11_tape_87 : decode cX11_tape 87 = .ok (.lconst 0, 1) := o9 hcX11_tape rfl
theorem dX11_tape_88 : decode cX11_tape 88 = .ok (.lastore, 1) := o80 hcX11_tape rfl
theorem dX11_tape_89 : decode cX11_tape 89 = .ok (.iinc 4 1, 3) := o132 hcX11_tape (b := 1) rfl rfl
theorem dX11_tape_92 : decode cX11_tape 92 = .ok (.goto (-23), 3) := o167 hcX11_tape (a := 65513) rfl rfl
theorem dX11_tape_95 : decode cX11_tape 95 = .ok (.iconst 1, 1) := o4 hcX11_tape rfl
theorem dX11_tape_96 : decode cX11_tape 96 = .ok (.ireturn, 1) := o172 hcX11_tape rfl
theorem dX11_narrow_0 : decode cX11_narrow 0 = .ok (.iload_n 1, 1) := o27 hcX11_narrow rfl
theorem dX11_narrow_1 : decode cX11_narrow 1 = .ok (.ifCond .ne 10, 3) := o154 hcX11_narrow (a := 10) rfl rfl
theorem dX11_narrow_4 : decode cX11_narrow 4 = .ok (.lload_n 2, 1) := o32 hcX11_narrow rfl
theorem dX11_narrow_5 : decode cX11_narrow 5 = .ok (.l2i, 1) := o136 hcX11_narrow rfl
theorem dX11_narrow_6 : decode cX11_narrow 6 = .ok (.i2b, 1) := o145 hcX11_narrow rfl
theorem dX11_narrow_7 : decode cX11_narrow 7 = .ok (.i2l, 1) := o133 hcX11_narrow rfl
theorem dX11_narrow_8 : decode cX11_narrow 8 = .ok (.goto 46, 3) := o167 hcX11_narrow (a := 46) rfl rfl
theorem dX11_narrow_11 : decode cX11_narrow 11 = .ok (.iload_n 1, 1) := o27 hcX11_narrow rfl
theorem dX11_narrow_12 : decode cX11_narrow 12 = .ok (.iconst 1, 1) := o4 hcX11_narrow rfl
theorem dX11_narrow_13 : decode cX11_narrow 13 = .ok (.if_icmp .ne 10, 3) := o160 hcX11_narrow (a := 10) rfl rfl
theorem dX11_narrow_16 : decode cX11_narrow 16 = .ok (.lload_n 2, 1) := o32 hcX11_narrow rfl
theorem dX11_narrow_17 : decode cX11_narrow 17 = .ok (.l2i, 1) := o136 hcX11_narrow rfl
theorem dX11_narrow_18 : decode cX11_narrow 18 = .ok (.i2s, 1) := o147 hcX11_narrow rfl
theorem dX11_narrow_19 : decode cX11_narrow 19 = .ok (.i2l, 1) := o133 hcX11_narrow rfl
theorem dX11_narrow_20 : decode cX11_narrow 20 = .ok (.goto 34, 3) := o167 hcX11_narrow (a := 34) rfl rfl
theorem dX11_narrow_23 : decode cX11_narrow 23 = .ok (.iload_n 1, 1) := o27 hcX11_narrow rfl
theorem dX11_narrow_24 : decode cX11_narrow 24 = .ok (.iconst 2, 1) := o5 hcX11_narrow rfl
theorem dX11_narrow_25 : decode cX11_narrow 25 = .ok (.if_icmp .ne 9, 3) := o160 hcX11_narrow (a := 9) rfl rfl
theorem dX11_narrow_28 : decode cX11_narrow 28 = .ok (.lload_n 2, 1) := o32 hcX11_narrow rfl
theorem dX11_narrow_29 : decode cX11_narrow 29 = .ok (.l2i, 1) := o136 hcX11_narrow rfl
theorem dX11_narrow_30 : decode cX11_narrow 30 = .ok (.i2l, 1) := o133 hcX11_narrow rfl
theorem dX11_narrow_31 : decode cX11_narrow 31 = .ok (.goto 23, 3) := o167 hcX11_narrow (a := 23) rfl rfl
theorem dX11_narrow_34 : decode cX11_narrow 34 = .ok (.iload_n 1, 1) := o27 hcX11_narrow rfl
theorem dX11_narrow_35 : decode cX11_narrow 35 = .ok (.iconst 4, 1) := o7 hcX11_narrow rfl
theorem dX11_narrow_36 : decode cX11_narrow 36 = .ok (.if_icmp .ne 17, 3) := o160 hcX11_narrow (a := 17) rfl rfl
theorem dX11_narrow_39 : decode cX11_narrow 39 = .ok (.lload_n 2, 1) := o32 hcX11_narrow rfl
theorem dX11_narrow_40 : decode cX11_narrow 40 = .ok (.lconst 0, 1) := o9 hcX11_narrow rfl
theorem dX11_narrow_41 : decode cX11_narrow 41 = .ok (.lcmp, 1) := o148 hcX11_narrow rfl
theorem dX11_narrow_42 : decode cX11_narrow 42 = .ok (.ifCond .eq 7, 3) := o153 hcX11_narrow (a := 7) rfl rfl
theorem dX11_narrow_45 : decode cX11_narrow 45 = .ok (.lconst 1, 1) := o10 hcX11_narrow rfl
theorem dX11_narrow_46 : decode cX11_narrow 46 = .ok (.goto 8, 3) := o167 hcX11_narrow (a := 8) rfl rfl
theorem dX11_narrow_49 : decode cX11_narrow 49 = .ok (.lconst 0, 1) := o9 hcX11_narrow rfl
theorem dX11_narrow_50 : decode cX11_narrow 50 = .ok (.goto 4, 3) := o167 hcX11_narrow (a := 4) rfl rfl
theorem dX11_narrow_53 : decode cX11_narrow 53 = .ok (.lload_n 2, 1) := o32 hcX11_narrow rfl
theorem dX11_narrow_54 : decode cX11_narrow 54 = .ok (.lreturn, 1) := o173 hcX11_narrow rfl
theorem dX11_item_0 : decode cX11_item 0 = .ok (.aload_n 0, 1) := o42 hcX11_item rfl
theorem dX11_item_1 : decode cX11_item 1 = .ok (.iload_n 1, 1) := o27 hcX11_item rfl
theorem dX11_item_2 : decode cX11_item 2 = .ok (.invokevirtual 370, 3) := o182 hcX11_item rfl
theorem dX11_item_5 : decode cX11_item 5 = .ok (.ifCond .ne 5, 3) := o154 hcX11_item (a := 5) rfl rfl
theorem dX11_item_8 : decode cX11_item 8 = .ok (.iconst (-1), 1) := o2 hcX11_item rfl
theorem dX11_item_9 : decode cX11_item 9 = .ok (.ireturn, 1) := o172 hcX11_item rfl
theorem dX11_item_10 : decode cX11_item 10 = .ok (.aload_n 0, 1) := o42 hcX11_item rfl
theorem dX11_item_11 : decode cX11_item 11 = .ok (.getfield 211, 3) := o180 hcX11_item rfl
theorem dX11_item_14 : decode cX11_item 14 = .ok (.iload_n 1, 1) := o27 hcX11_item rfl
theorem dX11_item_15 : decode cX11_item 15 = .ok (.iaload, 1) := o46 hcX11_item rfl
theorem dX11_item_16 : decode cX11_item 16 = .ok (.ifCond .ge 6, 3) := o156 hcX11_item (a := 6) rfl rfl
theorem dX11_item_19 : decode cX11_item 19 = .ok (.bipush (-11), 2) := o16 hcX11_item (a := 245) rfl rfl
theorem dX11_item_21 : decode cX11_item 21 = .ok (.ireturn, 1) := o172 hcX11_item rfl
theorem dX11_item_22 : decode cX11_item 22 = .ok (.aload_n 0, 1) := o42 hcX11_item rfl
theorem dX11_item_23 : decode cX11_item 23 = .ok (.iload_n 2, 1) := o28 hcX11_item rfl
theorem dX11_item_24 : decode cX11_item 24 = .ok (.iconst 0, 1) := o3 hcX11_item rfl
theorem dX11_item_25 : decode cX11_item 25 = .ok (.aload_n 0, 1) := o42 hcX11_item rfl
theorem dX11_item_26 : decode cX11_item 26 = .ok (.getfield 214, 3) := o180 hcX11_item rfl
theorem dX11_item_29 : decode cX11_item 29 = .ok (.iload_n 1, 1) := o27 hcX11_item rfl
theorem dX11_item_30 : decode cX11_item 30 = .ok (.iaload, 1) := o46 hcX11_item rfl
theorem dX11_item_31 : decode cX11_item 31 = .ok (.iconst 1, 1) := o4 hcX11_item rfl
theorem dX11_item_32 : decode cX11_item 32 = .ok (.isub, 1) := o100 hcX11_item rfl
theorem dX11_item_33 : decode cX11_item 33 = .ok (.invokevirtual 224, 3) := o182 hcX11_item rfl
theorem dX11_item_36 : decode cX11_item 36 = .ok (.ifCond .ne 6, 3) := o154 hcX11_item (a := 6) rfl rfl
theorem dX11_item_39 : decode cX11_item 39 = .ok (.bipush (-13), 2) := o16 hcX11_item (a := 243) rfl rfl
theorem dX11_item_41 : decode cX11_item 41 = .ok (.ireturn, 1) := o172 hcX11_item rfl
theorem dX11_item_42 : decode cX11_item 42 = .ok (.aload_n 0, 1) := o42 hcX11_item rfl
theorem dX11_item_43 : decode cX11_item 43 = .ok (.getfield 217, 3) := o180 hcX11_item rfl
theorem dX11_item_46 : decode cX11_item 46 = .ok (.bipush 60, 2) := o16 hcX11_item (a := 60) rfl rfl
theorem dX11_item_48 : decode cX11_item 48 = .ok (.iload_n 1, 1) := o27 hcX11_item rfl
theorem dX11_item_49 : decode cX11_item 49 = .ok (.imul, 1) := o104 hcX11_item rfl
theorem dX11_item_50 : decode cX11_item 50 = .ok (.iload_n 2, 1) := o28 hcX11_item rfl
theorem dX11_item_51 : decode cX11_item 51 = .ok (.iadd, 1) := o96 hcX11_item rfl
theorem dX11_item_52 : decode cX11_item 52 = .ok (.aload_n 0, 1) := o42 hcX11_item rfl
theorem dX11_item_53 : decode cX11_item 53 = .ok (.aload_n 0, 1) := o42 hcX11_item rfl
theorem dX11_item_54 : decode cX11_item 54 = .ok (.getfield 211, 3) := o180 hcX11_item rfl
theorem dX11_item_57 : decode cX11_item 57 = .ok (.iload_n 1, 1) := o27 hcX11_item rfl
theorem dX11_item_58 : decode cX11_item 58 = .ok (.iaload, 1) := o46 hcX11_item rfl
theorem dX11_item_59 : decode cX11_item 59 = .ok (.lload_n 3, 1) := o33 hcX11_item rfl
theorem dX11_item_60 : decode cX11_item 60 = .ok (.invokevirtual 397, 3) := o182 hcX11_item rfl
theorem dX11_item_63 : decode cX11_item 63 = .ok (.lastore, 1) := o80 hcX11_item rfl
theorem dX11_item_64 : decode cX11_item 64 = .ok (.iconst 1, 1) := o4 hcX11_item rfl
theorem dX11_item_65 : decode cX11_item 65 = .ok (.ireturn, 1) := o172 hcX11_item rfl
theorem dX11_read_0 : decode cX11_read 0 = .ok (.aload_n 0, 1) := o42 hcX11_read rfl
theorem dX11_read_1 : decode cX11_read 1 = .ok (.iload_n 1, 1) := o27 hcX11_read rfl
theorem dX11_read_2 : decode cX11_read 2 = .ok (.invokevirtual 370, 3) := o182 hcX11_read rfl
theorem dX11_read_5 : decode cX11_read 5 = .ok (.ifCond .eq 29, 3) := o153 hcX11_read (a := 29) rfl rfl
theorem dX11_read_8 : decode cX11_read 8 = .ok (.aload_n 0, 1) := o42 hcX11_read rfl
theorem dX11_read_9 : decode cX11_read 9 = .ok (.getfield 211, 3) := o180 hcX11_read rfl
theorem dX11_read_12 : decode cX11_read 12 = .ok (.iload_n 1, 1) := o27 hcX11_read rfl
theorem dX11_read_13 : decode cX11_read 13 = .ok (.iaload, 1) := o46 hcX11_read rfl
theorem dX11_read_14 : decode cX11_read 14 = .ok (.ifCond .lt 20, 3) := o155 hcX11_read (a := 20) rfl rfl
theorem dX11_read_17 : decode cX11_read 17 = .ok (.aload_n 0, 1) := o42 hcX11_read rfl
theorem dX11_read_18 : decode cX11_read 18 = .ok (.iload_n 2, 1) := o28 hcX11_read rfl
theorem dX11_read_19 : decode cX11_read 19 = .ok (.iconst 0, 1) := o3 hcX11_read rfl
theorem dX11_read_20 : decode cX11_read 20 = .ok (.aload_n 0, 1) := o42 hcX11_read rfl
theorem dX11_read_21 : decode cX11_read 21 = .ok (.getfield 214, 3) := o180 hcX11_read rfl
theorem dX11_read_24 : decode cX11_read 24 = .ok (.iload_n 1, 1) := o27 hcX11_read rfl
theorem dX11_read_25 : decode cX11_read 25 = .ok (.iaload, 1) := o46 hcX11_read rfl
theorem dX11_read_26 : decode cX11_read 26 = .ok (.iconst 1, 1) := o4 hcX11_read rfl
theorem dX11_read_27 : decode cX11_read 27 = .ok (.isub, 1) := o100 hcX11_read rfl
theorem dX11_read_28 : decode cX11_read 28 = .ok (.invokevirtual 224, 3) := o182 hcX11_read rfl
theorem dX11_read_31 : decode cX11_read 31 = .ok (.ifCond .ne 9, 3) := o154 hcX11_read (a := 9) rfl rfl
theorem dX11_read_34 : decode cX11_read 34 = .ok (.ldc2_w 364, 3) := o20 hcX11_read rfl
theorem dX11_read_37 : decode cX11_read 37 = .ok (.goto 14, 3) := o167 hcX11_read (a := 14) rfl rfl
theorem dX11_read_40 : decode cX11_read 40 = .ok (.aload_n 0, 1) := o42 hcX11_read rfl
theorem dX11_read_41 : decode cX11_read 41 = .ok (.getfield 217, 3) := o180 hcX11_read rfl
theorem dX11_read_44 : decode cX11_read 44 = .ok (.bipush 60, 2) := o16 hcX11_read (a := 60) rfl rfl
theorem dX11_read_46 : decode cX11_read 46 = .ok (.iload_n 1, 1) := o27 hcX11_read rfl
theorem dX11_read_47 : decode cX11_read 47 = .ok (.imul, 1) := o104 hcX11_read rfl
theorem dX11_read_48 : decode cX11_read 48 = .ok (.iload_n 2, 1) := o28 hcX11_read rfl
theorem dX11_read_49 : decode cX11_read 49 = .ok (.iadd, 1) := o96 hcX11_read rfl
theorem dX11_read_50 : decode cX11_read 50 = .ok (.laload, 1) := o47 hcX11_read rfl
theorem dX11_read_51 : decode cX11_read 51 = .ok (.lreturn, 1) := o173 hcX11_read rfl
theorem dX11_shift_0 : decode cX11_shift 0 = .ok (.aload_n 0, 1) := o42 hcX11_shift rfl
theorem dX11_shift_1 : decode cX11_shift 1 = .ok (.iload_n 1, 1) := o27 hcX11_shift rfl
theorem dX11_shift_2 : decode cX11_shift 2 = .ok (.invokevirtual 370, 3) := o182 hcX11_shift rfl
theorem dX11_shift_5 : decode cX11_shift 5 = .ok (.ifCond .eq 11, 3) := o153 hcX11_shift (a := 11) rfl rfl
theorem dX11_shift_8 : decode cX11_shift 8 = .ok (.aload_n 0, 1) := o42 hcX11_shift rfl
theorem dX11_shift_9 : decode cX11_shift 9 = .ok (.iload_n 3, 1) := o29 hcX11_shift rfl
theorem dX11_shift_10 : decode cX11_shift 10 = .ok (.invokevirtual 370, 3) := o182 hcX11_shift rfl
theorem dX11_shift_13 : decode cX11_shift 13 = .ok (.ifCond .ne 5, 3) := o154 hcX11_shift (a := 5) rfl rfl
theorem dX11_shift_16 : decode cX11_shift 16 = .ok (.iconst (-1), 1) := o2 hcX11_shift rfl
theorem dX11_shift_17 : decode cX11_shift 17 = .ok (.ireturn, 1) := o172 hcX11_shift rfl
theorem dX11_shift_18 : decode cX11_shift 18 = .ok (.aload_n 0, 1) := o42 hcX11_shift rfl
theorem dX11_shift_19 : decode cX11_shift 19 = .ok (.getfield 211, 3) := o180 hcX11_shift rfl
theorem dX11_shift_22 : decode cX11_shift 22 = .ok (.iload_n 1, 1) := o27 hcX11_shift rfl
theorem dX11_shift_23 : decode cX11_shift 23 = .ok (.iaload, 1) := o46 hcX11_shift rfl
theorem dX11_shift_24 : decode cX11_shift 24 = .ok (.ifCond .lt 12, 3) := o155 hcX11_shift (a := 12) rfl rfl
theorem dX11_shift_27 : decode cX11_shift 27 = .ok (.aload_n 0, 1) := o42 hcX11_shift rfl
theorem dX11_shift_28 : decode cX11_shift 28 = .ok (.getfield 211, 3) := o180 hcX11_shift rfl
theorem dX11_shift_31 : decode cX11_shift 31 = .ok (.iload_n 3, 1) := o29 hcX11_shift rfl
theorem dX11_shift_32 : decode cX11_shift 32 = .ok (.iaload, 1) := o46 hcX11_shift rfl
theorem dX11_shift_33 : decode cX11_shift 33 = .ok (.ifCond .ge 6, 3) := o156 hcX11_shift (a := 6) rfl rfl
theorem dX11_shift_36 : decode cX11_shift 36 = .ok (.bipush (-11), 2) := o16 hcX11_shift (a := 245) rfl rfl
theorem dX11_shift_38 : decode cX11_shift 38 = .ok (.ireturn, 1) := o172 hcX11_shift rfl
theorem dX11_shift_39 : decode cX11_shift 39 = .ok (.aload_n 0, 1) := o42 hcX11_shift rfl
theorem dX11_shift_40 : decode cX11_shift 40 = .ok (.getfield 211, 3) := o180 hcX11_shift rfl
theorem dX11_shift_43 : decode cX11_shift 43 = .ok (.iload_n 1, 1) := o27 hcX11_shift rfl
theorem dX11_shift_44 : decode cX11_shift 44 = .ok (.iaload, 1) := o46 hcX11_shift rfl
theorem dX11_shift_45 : decode cX11_shift 45 = .ok (.aload_n 0, 1) := o42 hcX11_shift rfl
theorem dX11_shift_46 : decode cX11_shift 46 = .ok (.getfield 211, 3) := o180 hcX11_shift rfl
theorem dX11_shift_49 : decode cX11_shift 49 = .ok (.iload_n 3, 1) := o29 hcX11_shift rfl
theorem dX11_shift_50 : decode cX11_shift 50 = .ok (.iaload, 1) := o46 hcX11_shift rfl
theorem dX11_shift_51 : decode cX11_shift 51 = .ok (.if_icmp .eq 6, 3) := o159 hcX11_shift (a := 6) rfl rfl
theorem dX11_shift_54 : decode cX11_shift 54 = .ok (.bipush (-12), 2) := o16 hcX11_shift (a := 244) rfl rfl
theorem dX11_shift_56 : decode cX11_shift 56 = .ok (.ireturn, 1) := o172 hcX11_shift rfl
theorem dX11_shift_57 : decode cX11_shift 57 = .ok (.iload 5, 2) := o21 hcX11_shift rfl
theorem dX11_shift_59 : decode cX11_shift 59 = .ok (.ifCond .lt 39, 3) := o155 hcX11_shift (a := 39) rfl rfl
theorem dX11_shift_62 : decode cX11_shift 62 = .ok (.iload_n 2, 1) := o28 hcX11_shift rfl
theorem dX11_shift_63 : decode cX11_shift 63 = .ok (.ifCond .lt 35, 3) := o155 hcX11_shift (a := 35) rfl rfl
theorem dX11_shift_66 : decode cX11_shift 66 = .ok (.iload 4, 2) := o21 hcX11_shift rfl
theorem dX11_shift_68 : decode cX11_shift 68 = .ok (.ifCond .lt 30, 3) := o155 hcX11_shift (a := 30) rfl rfl
theorem dX11_shift_71 : decode cX11_shift 71 = .ok (.iload_n 2, 1) := o28 hcX11_shift rfl
theorem dX11_shift_72 : decode cX11_shift 72 = .ok (.aload_n 0, 1) := o42 hcX11_shift rfl
theorem dX11_shift_73 : decode cX11_shift 73 = .ok (.getfield 214, 3) := o180 hcX11_shift rfl
theorem dX11_shift_76 : decode cX11_shift 76 = .ok (.iload_n 1, 1) := o27 hcX11_shift rfl
theorem dX11_shift_77 : decode cX11_shift 77 = .ok (.iaload, 1) := o46 hcX11_shift rfl
theorem dX11_shift_78 : decode cX11_shift 78 = .ok (.iload 5, 2) := o21 hcX11_shift rfl
theorem dX11_shift_80 : decode cX11_shift 80 = .ok (.isub, 1) := o100 hcX11_shift rfl
theorem dX11_shift_81 : decode cX11_shift 81 = .ok (.if_icmp .gt 17, 3) := o163 hcX11_shift (a := 17) rfl rfl
theorem dX11_shift_84 : decode cX11_shift 84 = .ok (.iload 4, 2) := o21 hcX11_shift rfl
theorem dX11_shift_86 : decode cX11_shift 86 = .ok (.aload_n 0, 1) := o42 hcX11_shift rfl
theorem dX11_shift_87 : decode cX11_shift 87 = .ok (.getfield 214, 3) := o180 hcX11_shift rfl
theorem dX11_shift_90 : decode cX11_shift 90 = .ok (.iload_n 3, 1) := o29 hcX11_shift rfl
theorem dX11_shift_91 : decode cX11_shift 91 = .ok (.iaload, 1) := o46 hcX11_shift rfl
theorem dX11_shift_92 : decode cX11_shift 92 = .ok (.iload 5, 2) := o21 hcX11_shift rfl
theorem dX11_shift_94 : decode cX11_shift 94 = .ok (.isub, 1) := o100 hcX11_shift rfl
theorem dX11_shift_95 : decode cX11_shift 95 = .ok (.if_icmp .le 6, 3) := o164 hcX11_shift (a := 6) rfl rfl
theorem dX11_shift_98 : decode cX11_shift 98 = .ok (.bipush (-13), 2) := o16 hcX11_shift (a := 243) rfl rfl
theorem dX11_shift_100 : decode cX11_shift 100 = .ok (.ireturn, 1) := o172 hcX11_shift rfl
theorem dX11_shift_101 : decode cX11_shift 101 = .ok (.iconst 0, 1) := o3 hcX11_shift rfl
theorem dX11_shift_102 : decode cX11_shift 102 = .ok (.istore 6, 2) := o54 hcX11_shift rfl
theorem dX11_shift_104 : decode cX11_shift 104 = .ok (.iload 6, 2) := o21 hcX11_shift rfl
theorem dX11_shift_106 : decode cX11_shift 106 = .ok (.iload 5, 2) := o21 hcX11_shift rfl
theorem dX11_shift_108 : decode cX11_shift 108 = .ok (.if_icmp .ge 30, 3) := o162 hcX11_shift (a := 30) rfl rfl
theorem dX11_shift_111 : decode cX11_shift 111 = .ok (.aload_n 0, 1) := o42 hcX11_shift rfl
theorem dX11_shift_112 : decode cX11_shift 112 = .ok (.getfield 221, 3) := o180 hcX11_shift rfl
theorem dX11_shift_115 : decode cX11_shift 115 = .ok (.iload 6, 2) := o21 hcX11_shift rfl
theorem dX11_shift_117 : decode cX11_shift 117 = .ok (.aload_n 0, 1) := o42 hcX11_shift rfl
theorem dX11_shift_118 : decode cX11_shift 118 = .ok (.getfield 217, 3) := o180 hcX11_shift rfl
theorem dX11_shift_121 : decode cX11_shift 121 = .ok (.bipush 60, 2) := o16 hcX11_shift (a := 60) rfl rfl
theorem dX11_shift_123 : decode cX11_shift 123 = .ok (.iload_n 1, 1) := o27 hcX11_shift rfl
theorem dX11_shift_124 : decode cX11_shift 124 = .ok (.imul, 1) := o104 hcX11_shift rfl
theorem dX11_shift_125 : decode cX11_shift 125 = .ok (.iload_n 2, 1) := o28 hcX11_shift rfl
theorem dX11_shift_126 : decode cX11_shift 126 = .ok (.iadd, 1) := o96 hcX11_shift rfl
theorem dX11_shift_127 : decode cX11_shift 127 = .ok (.iload 6, 2) := o21 hcX11_shift rfl
theorem dX11_shift_129 : decode cX11_shift 129 = .ok (.iadd, 1) := o96 hcX11_shift rfl
theorem dX11_shift_130 : decode cX11_shift 130 = .ok (.laload, 1) := o47 hcX11_shift rfl
theorem dX11_shift_131 : decode cX11_shift 131 = .ok (.lastore, 1) := o80 hcX11_shift rfl
theorem dX11_shift_132 : decode cX11_shift 132 = .ok (.iinc 6 1, 3) := o132 hcX11_shift (b := 1) rfl rfl
theorem dX11_shift_135 : decode cX11_shift 135 = .ok (.goto (-31), 3) := o167 hcX11_shift (a := 65505) rfl rfl
theorem dX11_shift_138 : decode cX11_shift 138 = .ok (.iconst 0, 1) := o3 hcX11_shift rfl
theorem dX11_shift_139 : decode cX11_shift 139 = .ok (.istore 6, 2) := o54 hcX11_shift rfl
theorem dX11_shift_141 : decode cX11_shift 141 = .ok (.iload 6, 2) := o21 hcX11_shift rfl
theorem dX11_shift_143 : decode cX11_shift 143 = .ok (.iload 5, 2) := o21 hcX11_shift rfl
theorem dX11_shift_145 : decode cX11_shift 145 = .ok (.if_icmp .ge 31, 3) := o162 hcX11_shift (a := 31) rfl rfl
theorem dX11_shift_148 : decode cX11_shift 148 = .ok (.aload_n 0, 1) := o42 hcX11_shift rfl
theorem dX11_shift_149 : decode cX11_shift 149 = .ok (.getfield 217, 3) := o180 hcX11_shift rfl
theorem dX11_shift_152 : decode cX11_shift 152 = .ok (.bipush 60, 2) := o16 hcX11_shift (a := 60) rfl rfl
theorem dX11_shift_154 : decode cX11_shift 154 = .ok (.iload_n 3, 1) := o29 hcX11_shift rfl
theorem dX11_shift_155 : decode cX11_shift 155 = .ok (.imul, 1) := o104 hcX11_shift rfl
theorem dX11_shift_156 : decode cX11_shift 156 = .ok (.iload 4, 2) := o21 hcX11_shift rfl
theorem dX11_shift_158 : decode cX11_shift 158 = .ok (.iadd, 1) := o96 hcX11_shift rfl
theorem dX11_shift_159 : decode cX11_shift 159 = .ok (.iload 6, 2) := o21 hcX11_shift rfl
theorem dX11_shift_161 : decode cX11_shift 161 = .ok (.iadd, 1) := o96 hcX11_shift rfl
theorem dX11_shift_162 : decode cX11_shift 162 = .ok (.aload_n 0, 1) := o42 hcX11_shift rfl
theorem dX11_shift_163 : decode cX11_shift 163 = .ok (.getfield 221, 3) := o180 hcX11_shift rfl
theorem dX11_shift_166 : decode cX11_shift 166 = .ok (.iload 6, 2) := o21 hcX11_shift rfl
theorem dX11_shift_168 : decode cX11_shift 168 = .ok (.laload, 1) := o47 hcX11_shift rfl
theorem dX11_shift_169 : decode cX11_shift 169 = .ok (.lastore, 1) := o80 hcX11_shift rfl
theorem dX11_shift_170 : decode cX11_shift 170 = .ok (.iinc 6 1, 3) := o132 hcX11_shift (b := 1) rfl rfl
theorem dX11_shift_173 : decode cX11_shift 173 = .ok (.goto (-32), 3) := o167 hcX11_shift (a := 65504) rfl rfl
theorem dX11_shift_176 : decode cX11_shift 176 = .ok (.iload 5, 2) := o21 hcX11_shift rfl
theorem dX11_shift_178 : decode cX11_shift 178 = .ok (.ireturn, 1) := o172 hcX11_shift rfl
