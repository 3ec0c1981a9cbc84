theorem dL_law_0 : decode cL_law 0 = .ok (.new 7, 3) := o187 hcL_law rfl
theorem dL_law_3 : decode cL_law 3 = .ok (.dup, 1) := o89 hcL_law rfl
theorem dL_law_4 : decode cL_law 4 = .ok (.invokespecial 9, 3) := o183 hcL_law rfl
theorem dL_law_7 : decode cL_law 7 = .ok (.astore_n 1, 1) := o76 hcL_law rfl
theorem dL_law_8 : decode cL_law 8 = .ok (.new 10, 3) := o187 hcL_law rfl
theorem dL_law_11 : decode cL_law 11 = .ok (.dup, 1) := o89 hcL_law rfl
theorem dL_law_12 : decode cL_law 12 = .ok (.invokespecial 12, 3) := o183 hcL_law rfl
theorem dL_law_15 : decode cL_law 15 = .ok (.astore_n 2, 1) := o77 hcL_law rfl
theorem dL_law_16 : decode cL_law 16 = .ok (.iconst 0, 1) := o3 hcL_law rfl
theorem dL_law_17 : decode cL_law 17 = .ok (.istore_n 3, 1) := o62 hcL_law rfl
theorem dL_law_18 : decode cL_law 18 = .ok (.iload_n 3, 1) := o29 hcL_law rfl
theorem dL_law_19 : decode cL_law 19 = .ok (.aload_n 0, 1) := o42 hcL_law rfl
theorem dL_law_20 : decode cL_law 20 = .ok (.arraylength, 1) := o190 hcL_law rfl
theorem dL_law_21 : decode cL_law 21 = .ok (.bipush 6, 2) := o16 hcL_law (a := 6) rfl rfl
theorem dL_law_23 : decode cL_law 23 = .ok (.isub, 1) := o100 hcL_law rfl
theorem dL_law_24 : decode cL_law 24 = .ok (.if_icmp .gt 1478, 3) := o163 hcL_law (a := 1478) rfl rfl
theorem dL_law_27 : decode cL_law 27 = .ok (.aload_n 0, 1) := o42 hcL_law rfl
theorem dL_law_28 : decode cL_law 28 = .ok (.iload_n 3, 1) := o29 hcL_law rfl
theorem dL_law_29 : decode cL_law 29 = .ok (.iaload, 1) := o46 hcL_law rfl
theorem dL_law_30 : decode cL_law 30 = .ok (.bipush 63, 2) := o16 hcL_law (a := 63) rfl rfl
theorem dL_law_32 : decode cL_law 32 = .ok (.iand, 1) := o126 hcL_law rfl
theorem dL_law_33 : decode cL_law 33 = .ok (.tableswitch 1463 0 37 #[167, 210, 253, 286, 319, 352, 411, 444, 487, 530, 553, 566, 579, 622, 645, 678, 721, 754, 787, 840, 889, 902, 915, 948, 991, 1024, 1057, 1070, 1103, 1116, 1129, 1172, 1195, 1228, 1251, 1294, 1367, 1400], 167) := by decide +kernel
theorem dL_law_200 : decode cL_law 200 = .ok (.aload_n 1, 1) := o43 hcL_law rfl
theorem dL_law_201 : decode cL_law 201 = .ok (.aload_n 0, 1) := o42 hcL_law rfl
theorem dL_law_202 : decode cL_law 202 = .ok (.iload_n 3, 1) := o29 hcL_law rfl
theorem dL_law_203 : decode cL_law 203 = .ok (.iconst 1, 1) := o4 hcL_law rfl
theorem dL_law_204 : decode cL_law 204 = .ok (.iadd, 1) := o96 hcL_law rfl
theorem dL_law_205 : decode cL_law 205 = .ok (.iaload, 1) := o46 hcL_law rfl
theorem dL_law_206 : decode cL_law 206 = .ok (.aload_n 0, 1) := o42 hcL_law rfl
theorem dL_law_207 : decode cL_law 207 = .ok (.iload_n 3, 1) := o29 hcL_law rfl
theorem dL_law_208 : decode cL_law 208 = .ok (.iconst 2, 1) := o5 hcL_law rfl
theorem dL_law_209 : decode cL_law 209 = .ok (.iadd, 1) := o96 hcL_law rfl
theorem dL_law_210 : decode cL_law 210 = .ok (.iaload, 1) := o46 hcL_law rfl
theorem dL_law_211 : decode cL_law 211 = .ok (.aload_n 0, 1) := o42 hcL_law rfl
theorem dL_law_212 : decode cL_law 212 = .ok (.iload_n 3, 1) := o29 hcL_law rfl
theorem dL_law_213 : decode cL_law 213 = .ok (.iconst 3, 1) := o6 hcL_law rfl
theorem dL_law_214 : decode cL_law 214 = .ok (.iadd, 1) := o96 hcL_law rfl
theorem dL_law_215 : decode cL_law 215 = .ok (.iaload, 1) := o46 hcL_law rfl
theorem dL_law_216 : decode cL_law 216 = .ok (.invokevirtual 13, 3) := o182 hcL_law rfl
theorem dL_law_219 : decode cL_law 219 = .ok (.pop, 1) := o87 hcL_law rfl
theorem dL_law_220 : decode cL_law 220 = .ok (.aload_n 2, 1) := o44 hcL_law rfl
theorem dL_law_221 : decode cL_law 221 = .ok (.aload_n 0, 1) := o42 hcL_law rfl
theorem dL_law_222 : decode cL_law 222 = .ok (.iload_n 3, 1) := o29 hcL_law rfl
theorem dL_law_223 : decode cL_law 223 = .ok (.iconst 1, 1) := o4 hcL_law rfl
theorem dL_law_224 : decode cL_law 224 = .ok (.iadd, 1) := o96 hcL_law rfl
theorem dL_law_225 : decode cL_law 225 = .ok (.iaload, 1) := o46 hcL_law rfl
theorem dL_law_226 : decode cL_law 226 = .ok (.aload_n 0, 1) := o42 hcL_law rfl
theorem dL_law_227 : decode cL_law 227 = .ok (.iload_n 3, 1) := o29 hcL_law rfl
theorem dL_law_228 : decode cL_law 228 = .ok (.iconst 2, 1) := o5 hcL_law rfl
theorem dL_law_229 : decode cL_law 229 = .ok (.iadd, 1) := o96 hcL_law rfl
theorem dL_law_230 : decode cL_law 230 = .ok (.iaload, 1) := o46 hcL_law rfl
theorem dL_law_231 : decode cL_law 231 = .ok (.aload_n 0, 1) := o42 hcL_law rfl
theorem dL_law_232 : decode cL_law 232 = .ok (.iload_n 3, 1) := o29 hcL_law rfl
theorem dL_law_233 : decode cL_law 233 = .ok (.iconst 3, 1) := o6 hcL_law rfl
theorem dL_law_234 : decode cL_law 234 = .ok (.iadd, 1) := o96 hcL_law rfl
theorem dL_law_235 : decode cL_law 235 = .ok (.iaload, 1) := o46 hcL_law rfl
theorem dL_law_236 : decode cL_law 236 = .ok (.invokevirtual 17, 3) := o182 hcL_law rfl
theorem dL_law_239 : decode cL_law 239 = .ok (.pop, 1) := o87 hcL_law rfl
theorem dL_law_240 : decode cL_law 240 = .ok (.goto 1256, 3) := o167 hcL_law (a := 1256) rfl rfl
theorem dL_law_243 : decode cL_law 243 = .ok (.aload_n 1, 1) := o43 hcL_law rfl
theorem dL_law_244 : decode cL_law 244 = .ok (.aload_n 0, 1) := o42 hcL_law rfl
theorem dL_law_245 : decode cL_law 245 = .ok (.iload_n 3, 1) := o29 hcL_law rfl
theorem dL_law_246 : decode cL_law 246 = .ok (.iconst 1, 1) := o4 hcL_law rfl
theorem dL_law_247 : decode cL_law 247 = .ok (.iadd, 1) := o96 hcL_law rfl
theorem dL_law_248 : decode cL_law 248 = .ok (.iaload, 1) := o46 hcL_law rfl
theorem dL_law_249 : decode cL_law 249 = .ok (.aload_n 0, 1) := o42 hcL_law rfl
theorem dL_law_250 : decode cL_law 250 = .ok (.iload_n 3, 1) := o29 hcL_law rfl
theorem dL_law_251 : decode cL_law 251 = .ok (.iconst 2, 1) := o5 hcL_law rfl
theorem dL_law_252 : decode cL_law 252 = .ok (.iadd, 1) := o96 hcL_law rfl
theorem dL_law_253 : decode cL_law 253 = .ok (.iaload, 1) := o46 hcL_law rfl
theorem dL_law_254 : decode cL_law 254 = .ok (.aload_n 0, 1) := o42 hcL_law rfl
theorem dL_law_255 : decode cL_law 255 = .ok (.iload_n 3, 1) := o29 hcL_law rfl
theorem dL_law_256 : decode cL_law 256 = .ok (.iconst 3, 1) := o6 hcL_law rfl
theorem dL_law_257 : decode cL_law 257 = .ok (.iadd, 1) := o96 hcL_law rfl
theorem dL_law_258 : decode cL_law 258 = .ok (.iaload, 1) := o46 hcL_law rfl
theorem dL_law_259 : decode cL_law 259 = .ok (.invokevirtual 18, 3) := o182 hcL_law rfl
theorem dL_law_262 : decode cL_law 262 = .ok (.pop, 1) := o87 hcL_law rfl
theorem dL_law_263 : decode cL_law 263 = .ok (.aload_n 2, 1) := o44 hcL_law rfl
theorem dL_law_264 : decode cL_law 264 = .ok (.aload_n 0, 1) := o42 hcL_law rfl
theorem dL_law_265 : decode cL_law 265 = .ok (.iload_n 3, 1) := o29 hcL_law rfl
theorem dL_law_266 : decode cL_law 266 = .ok (.iconst 1, 1) := o4 hcL_law rfl
theorem dL_law_267 : decode cL_law 267 = .ok (.iadd, 1) := o96 hcL_law rfl
theorem dL_law_268 : decode cL_law 268 = .ok (.iaload, 1) := o46 hcL_law rfl
theorem dL_law_269 : decode cL_law 269 = .ok (.aload_n 0, 1) := o42 hcL_law rfl
theorem dL_law_270 : decode cL_law 270 = .ok (.iload_n 3, 1) := o29 hcL_law rfl
theorem dL_law_271 : decode cL_law 271 = .ok (.iconst 2, 1) := o5 hcL_law rfl
theorem dL_law_272 : decode cL_law 272 = .ok (.iadd, 1) := o96 hcL_law rfl
theorem dL_law_273 : decode cL_law 273 = .ok (.iaload, 1) := o46 hcL_law rfl
theorem dL_law_274 : decode cL_law 274 = .ok (.aload_n 0, 1) := o42 hcL_law rfl
theorem dL_law_275 : decode cL_law 275 = .ok (.iload_n 3, 1) := o29 hcL_law rfl
theorem dL_law_276 : decode cL_law 276 = .ok (.iconst 3, 1) := o6 hcL_law rfl
theorem dL_law_277 : decode cL_law 277 = .ok (.iadd, 1) := o96 hcL_law rfl
theorem dL_law_278 : decode cL_law 278 = .ok (.iaload, 1) := o46 hcL_law rfl
theorem dL_law_279 : decode cL_law 279 = .ok (.invokevirtual 21, 3) := o182 hcL_law rfl
theorem dL_law_282 : decode cL_law 282 = .ok (.pop, 1) := o87 hcL_law rfl
theorem dL_law_283 : decode cL_law 283 = .ok (.goto 1213, 3) := o167 hcL_law (a := 1213) rfl rfl
theorem dL_law_286 : decode cL_law 286 = .ok (.aload_n 1, 1) := o43 hcL_law rfl
theorem dL_law_287 : decode cL_law 287 = .ok (.aload_n 0, 1) := o42 hcL_law rfl
theorem dL_law_288 : decode cL_law 288 = .ok (.iload_n 3, 1) := o29 hcL_law rfl
theorem dL_law_289 : decode cL_law 289 = .ok (.iconst 1, 1) := o4 hcL_law rfl
theorem dL_law_290 : decode cL_law 290 = .ok (.iadd, 1) := o96 hcL_law rfl
theorem dL_law_291 : decode cL_law 291 = .ok (.iaload, 1) := o46 hcL_law rfl
theorem dL_law_292 : decode cL_law 292 = .ok (.aload_n 0, 1) := o42 hcL_law rfl
theorem dL_law_293 : decode cL_law 293 = .ok (.iload_n 3, 1) := o29 hcL_law rfl
theorem dL_law_294 : decode cL_law 294 = .ok (.iconst 2, 1) := o5 hcL_law rfl
theorem dL_law_295 : decode cL_law 295 = .ok (.iadd, 1) := o96 hcL_law rfl
theorem dL_law_296 : decode cL_law 296 = .ok (.iaload, 1) := o46 hcL_law rfl
theorem dL_law_297 : decode cL_law 297 = .ok (.invokevirtual 22, 3) := o182 hcL_law rfl
theorem dL_law_300 : decode cL_law 300 = .ok (.pop, 1) := o87 hcL_law rfl
theorem dL_law_301 : decode cL_law 301 = .ok (.aload_n 2, 1) := o44 hcL_law rfl
theorem dL_law_302 : decode cL_law 302 = .ok (.aload_n 0, 1) := o42 hcL_law rfl
theorem dL_law_303 : decode cL_law 303 = .ok (.iload_n 3, 1) := o29 hcL_law rfl
theorem dL_law_304 : decode cL_law 304 = .ok (.iconst 1, 1) := o4 hcL_law rfl
theorem dL_law_305 : decode cL_law 305 = .ok (.iadd, 1) := o96 hcL_law rfl
theorem dL_law_306 : decode cL_law 306 = .ok (.iaload, 1) := o46 hcL_law rfl
theorem dL_law_307 : decode cL_law 307 = .ok (.aload_n 0, 1) := o42 hcL_law rfl
theorem dL_law_308 : decode cL_law 308 = .ok (.iload_n 3, 1) := o29 hcL_law rfl
theorem dL_law_309 : decode cL_law 309 = .ok (.iconst 2, 1) := o5 hcL_law rfl
theorem dL_law_310 : decode cL_law 310 = .ok (.iadd, 1) := o96 hcL_law rfl
theorem dL_law_311 : decode cL_law 311 = .ok (.iaload, 1) := o46 hcL_law rfl
theorem dL_law_312 : decode cL_law 312 = .ok (.invokevirtual 26, 3) := o182 hcL_law rfl
theorem dL_law_315 : decode cL_law 315 = .ok (.pop, 1) := o87 hcL_law rfl
theorem dL_law_316 : decode cL_law 316 = .ok (.goto 1180, 3) := o167 hcL_law (a := 1180) rfl rfl
theorem dL_law_319 : decode cL_law 319 = .ok (.aload_n 1, 1) := o43 hcL_law rfl
theorem dL_law_320 : decode cL_law 320 = .ok (.aload_n 0, 1) := o42 hcL_law rfl
theorem dL_law_321 : decode cL_law 321 = .ok (.iload_n 3, 1) := o29 hcL_law rfl
theorem dL_law_322 : decode cL_law 322 = .ok (.iconst 1, 1) := o4 hcL_law rfl
theorem dL_law_323 : decode cL_law 323 = .ok (.iadd, 1) := o96 hcL_law rfl
theorem dL_law_324 : decode cL_law 324 = .ok (.iaload, 1) := o46 hcL_law rfl
theorem dL_law_325 : decode cL_law 325 = .ok (.aload_n 0, 1) := o42 hcL_law rfl
