theorem md_L_law_0 : decode code 0 = .ok (.new 7, 3) := by decide +kernel
theorem md_L_law_3 : decode code 3 = .ok (.dup, 1) := by decide +kernel
theorem md_L_law_4 : decode code 4 = .ok (.invokespecial 9, 3) := by decide +kernel
theorem md_L_law_7 : decode code 7 = .ok (.astore_n 1, 1) := by decide +kernel
theorem md_L_law_8 : decode code 8 = .ok (.new 10, 3) := by decide +kernel
theorem md_L_law_11 : decode code 11 = .ok (.dup, 1) := by decide +kernel
theorem md_L_law_12 : decode code 12 = .ok (.invokespecial 12, 3) := by decide +kernel
theorem md_L_law_15 : decode code 15 = .ok (.astore_n 2, 1) := by decide +kernel
theorem md_L_law_16 : decode code 16 = .ok (.iconst 0, 1) := by decide +kernel
theorem md_L_law_17 : decode code 17 = .ok (.istore_n 3, 1) := by decide +kernel
theorem md_L_law_18 : decode code 18 = .ok (.iload_n 3, 1) := by decide +kernel
theorem md_L_law_19 : decode code 19 = .ok (.aload_n 0, 1) := by decide +kernel
theorem md_L_law_20 : decode code 20 = .ok (.arraylength, 1) := by decide +kernel
theorem md_L_law_21 : decode code 21 = .ok (.bipush 6, 2) := by decide +kernel
theorem md_L_law_23 : decode code 23 = .ok (.isub, 1) := by decide +kernel
theorem md_L_law_24 : decode code 24 = .ok (.if_icmp .gt 654, 3) := by decide +kernel
theorem md_L_law_27 : decode code 27 = .ok (.aload_n 0, 1) := by decide +kernel
theorem md_L_law_28 : decode code 28 = .ok (.iload_n 3, 1) := by decide +kernel
theorem md_L_law_29 : decode code 29 = .ok (.iaload, 1) := by decide +kernel
theorem md_L_law_30 : decode code 30 = .ok (.bipush 15, 2) := by decide +kernel
theorem md_L_law_32 : decode code 32 = .ok (.iand, 1) := by decide +kernel
theorem md_L_law_33 : decode code 33 = .ok (.tableswitch 639 0 11 #[63, 136, 179, 212, 275, 338, 391, 434, 477, 520, 553, 606], 63) := by decide +kernel
theorem md_L_law_96 : decode code 96 = .ok (.aload_n 1, 1) := by decide +kernel
theorem md_L_law_97 : decode code 97 = .ok (.aload_n 0, 1) := by decide +kernel
theorem md_L_law_98 : decode code 98 = .ok (.iload_n 3, 1) := by decide +kernel
theorem md_L_law_99 : decode code 99 = .ok (.iconst 1, 1) := by decide +kernel
theorem md_L_law_100 : decode code 100 = .ok (.iadd, 1) := by decide +kernel
theorem md_L_law_101 : decode code 101 = .ok (.iaload, 1) := by decide +kernel
theorem md_L_law_102 : decode code 102 = .ok (.aload_n 0, 1) := by decide +kernel
theorem md_L_law_103 : decode code 103 = .ok (.iload_n 3, 1) := by decide +kernel
theorem md_L_law_104 : decode code 104 = .ok (.iconst 2, 1) := by decide +kernel
theorem md_L_law_105 : decode code 105 = .ok (.iadd, 1) := by decide +kernel
theorem md_L_law_106 : decode code 106 = .ok (.iaload, 1) := by decide +kernel
theorem md_L_law_107 : decode code 107 = .ok (.aload_n 0, 1) := by decide +kernel
theorem md_L_law_108 : decode code 108 = .ok (.iload_n 3, 1) := by decide +kernel
theorem md_L_law_109 : decode code 109 = .ok (.iconst 3, 1) := by decide +kernel
theorem md_L_law_110 : decode code 110 = .ok (.iadd, 1) := by decide +kernel
theorem md_L_law_111 : decode code 111 = .ok (.iaload, 1) := by decide +kernel
theorem md_L_law_112 : decode code 112 = .ok (.i2l, 1) := by decide +kernel
theorem md_L_law_113 : decode code 113 = .ok (.bipush 32, 2) := by decide +kernel
theorem md_L_law_115 : decode code 115 = .ok (.lshl, 1) := by decide +kernel
theorem md_L_law_116 : decode code 116 = .ok (.aload_n 0, 1) := by decide +kernel
theorem md_L_law_117 : decode code 117 = .ok (.iload_n 3, 1) := by decide +kernel
theorem md_L_law_118 : decode code 118 = .ok (.iconst 4, 1) := by decide +kernel
theorem md_L_law_119 : decode code 119 = .ok (.iadd, 1) := by decide +kernel
theorem md_L_law_120 : decode code 120 = .ok (.iaload, 1) := by decide +kernel
theorem md_L_law_121 : decode code 121 = .ok (.i2l, 1) := by decide +kernel
theorem md_L_law_122 : decode code 122 = .ok (.ldc2_w 13, 3) := by decide +kernel
theorem md_L_law_125 : decode code 125 = .ok (.land, 1) := by decide +kernel
theorem md_L_law_126 : decode code 126 = .ok (.lor, 1) := by decide +kernel
theorem md_L_law_127 : decode code 127 = .ok (.invokevirtual 15, 3) := by decide +kernel
theorem md_L_law_130 : decode code 130 = .ok (.pop, 1) := by decide +kernel
theorem md_L_law_131 : decode code 131 = .ok (.aload_n 2, 1) := by decide +kernel
theorem md_L_law_132 : decode code 132 = .ok (.aload_n 0, 1) := by decide +kernel
theorem md_L_law_133 : decode code 133 = .ok (.iload_n 3, 1) := by decide +kernel
theorem md_L_law_134 : decode code 134 = .ok (.iconst 1, 1) := by decide +kernel
theorem md_L_law_135 : decode code 135 = .ok (.iadd, 1) := by decide +kernel
theorem md_L_law_136 : decode code 136 = .ok (.iaload, 1) := by decide +kernel
theorem md_L_law_137 : decode code 137 = .ok (.aload_n 0, 1) := by decide +kernel
theorem md_L_law_138 : decode code 138 = .ok (.iload_n 3, 1) := by decide +kernel
theorem md_L_law_139 : decode code 139 = .ok (.iconst 2, 1) := by decide +kernel
theorem md_L_law_140 : decode code 140 = .ok (.iadd, 1) := by decide +kernel
theorem md_L_law_141 : decode code 141 = .ok (.iaload, 1) := by decide +kernel
theorem md_L_law_142 : decode code 142 = .ok (.aload_n 0, 1) := by decide +kernel
theorem md_L_law_143 : decode code 143 = .ok (.iload_n 3, 1) := by decide +kernel
theorem md_L_law_144 : decode code 144 = .ok (.iconst 3, 1) := by decide +kernel
theorem md_L_law_145 : decode code 145 = .ok (.iadd, 1) := by decide +kernel
theorem md_L_law_146 : decode code 146 = .ok (.iaload, 1) := by decide +kernel
theorem md_L_law_147 : decode code 147 = .ok (.i2l, 1) := by decide +kernel
theorem md_L_law_148 : decode code 148 = .ok (.bipush 32, 2) := by decide +kernel
theorem md_L_law_150 : decode code 150 = .ok (.lshl, 1) := by decide +kernel
theorem md_L_law_151 : decode code 151 = .ok (.aload_n 0, 1) := by decide +kernel
theorem md_L_law_152 : decode code 152 = .ok (.iload_n 3, 1) := by decide +kernel
theorem md_L_law_153 : decode code 153 = .ok (.iconst 4, 1) := by decide +kernel
theorem md_L_law_154 : decode code 154 = .ok (.iadd, 1) := by decide +kernel
theorem md_L_law_155 : decode code 155 = .ok (.iaload, 1) := by decide +kernel
theorem md_L_law_156 : decode code 156 = .ok (.i2l, 1) := by decide +kernel
theorem md_L_law_157 : decode code 157 = .ok (.ldc2_w 13, 3) := by decide +kernel
theorem md_L_law_160 : decode code 160 = .ok (.land, 1) := by decide +kernel
theorem md_L_law_161 : decode code 161 = .ok (.lor, 1) := by decide +kernel
theorem md_L_law_162 : decode code 162 = .ok (.invokevirtual 19, 3) := by decide +kernel
theorem md_L_law_165 : decode code 165 = .ok (.pop, 1) := by decide +kernel
theorem md_L_law_166 : decode code 166 = .ok (.goto 506, 3) := by decide +kernel
theorem md_L_law_169 : decode code 169 = .ok (.aload_n 1, 1) := by decide +kernel
theorem md_L_law_170 : decode code 170 = .ok (.aload_n 0, 1) := by decide +kernel
theorem md_L_law_171 : decode code 171 = .ok (.iload_n 3, 1) := by decide +kernel
theorem md_L_law_172 : decode code 172 = .ok (.iconst 1, 1) := by decide +kernel
theorem md_L_law_173 : decode code 173 = .ok (.iadd, 1) := by decide +kernel
theorem md_L_law_174 : decode code 174 = .ok (.iaload, 1) := by decide +kernel
theorem md_L_law_175 : decode code 175 = .ok (.aload_n 0, 1) := by decide +kernel
theorem md_L_law_176 : decode code 176 = .ok (.iload_n 3, 1) := by decide +kernel
theorem md_L_law_177 : decode code 177 = .ok (.iconst 2, 1) := by decide +kernel
theorem md_L_law_178 : decode code 178 = .ok (.iadd, 1) := by decide +kernel
theorem md_L_law_179 : decode code 179 = .ok (.iaload, 1) := by decide +kernel
theorem md_L_law_180 : decode code 180 = .ok (.aload_n 0, 1) := by decide +kernel
theorem md_L_law_181 : decode code 181 = .ok (.iload_n 3, 1) := by decide +kernel
theorem md_L_law_182 : decode code 182 = .ok (.iconst 3, 1) := by decide +kernel
theorem md_L_law_183 : decode code 183 = .ok (.iadd, 1) := by decide +kernel
theorem md_L_law_184 : decode code 184 = .ok (.iaload, 1) := by decide +kernel
theorem md_L_law_185 : decode code 185 = .ok (.invokevirtual 20, 3) := by decide +kernel
theorem md_L_law_188 : decode code 188 = .ok (.pop, 1) := by decide +kernel
theorem md_L_law_189 : decode code 189 = .ok (.aload_n 2, 1) := by decide +kernel
theorem md_L_law_190 : decode code 190 = .ok (.aload_n 0, 1) := by decide +kernel
theorem md_L_law_191 : decode code 191 = .ok (.iload_n 3, 1) := by decide +kernel
theorem md_L_law_192 : decode code 192 = .ok (.iconst 1, 1) := by decide +kernel
theorem md_L_law_193 : decode code 193 = .ok (.iadd, 1) := by decide +kernel
theorem md_L_law_194 : decode code 194 = .ok (.iaload, 1) := by decide +kernel
theorem md_L_law_195 : decode code 195 = .ok (.aload_n 0, 1) := by decide +kernel
theorem md_L_law_196 : decode code 196 = .ok (.iload_n 3, 1) := by decide +kernel
theorem md_L_law_197 : decode code 197 = .ok (.iconst 2, 1) := by decide +kernel
theorem md_L_law_198 : decode code 198 = .ok (.iadd, 1) := by decide +kernel
theorem md_L_law_199 : decode code 199 = .ok (.iaload, 1) := by decide +kernel
theorem md_L_law_200 : decode code 200 = .ok (.aload_n 0, 1) := by decide +kernel
theorem md_L_law_201 : decode code 201 = .ok (.iload_n 3, 1) := by decide +kernel
theorem md_L_law_202 : decode code 202 = .ok (.iconst 3, 1) := by decide +kernel
theorem md_L_law_203 : decode code 203 = .ok (.iadd, 1) := by decide +kernel
theorem md_L_law_204 : decode code 204 = .ok (.iaload, 1) := by decide +kernel
theorem md_L_law_205 : decode code 205 = .ok (.invokevirtual 24, 3) := by decide +kernel
theorem md_L_law_208 : decode code 208 = .ok (.pop, 1) := by decide +kernel
theorem md_L_law_209 : decode code 209 = .ok (.goto 463, 3) := by decide +kernel
theorem md_L_law_212 : decode code 212 = .ok (.aload_n 1, 1) := by decide +kernel
theorem md_L_law_213 : decode code 213 = .ok (.aload_n 0, 1) := by decide +kernel
theorem md_L_law_214 : decode code 214 = .ok (.iload_n 3, 1) := by decide +kernel
theorem md_L_law_215 : decode code 215 = .ok (.iconst 1, 1) := by decide +kernel
theorem md_L_law_216 : decode code 216 = .ok (.iadd, 1) := by decide +kernel
theorem md_L_law_217 : decode code 217 = .ok (.iaload, 1) := by decide +kernel
theorem md_L_law_218 : decode code 218 = .ok (.aload_n 0, 1) := by decide +kernel
theorem md_L_law_219 : decode code 219 = .ok (.iload_n 3, 1) := by decide +kernel
theorem md_L_law_220 : decode code 220 = .ok (.iconst 2, 1) := by decide +kernel
theorem md_L_law_221 : decode code 221 = .ok (.iadd, 1) := by decide +kernel
theorem md_L_law_222 : decode code 222 = .ok (.iaload, 1) := by decide +kernel
theorem md_L_law_223 : decode code 223 = .ok (.invokevirtual 25, 3) := by decide +kernel
theorem md_L_law_226 : decode code 226 = .ok (.pop2, 1) := by decide +kernel
theorem md_L_law_227 : decode code 227 = .ok (.aload_n 2, 1) := by decide +kernel
theorem md_L_law_228 : decode code 228 = .ok (.aload_n 0, 1) := by decide +kernel
theorem md_L_law_229 : decode code 229 = .ok (.iload_n 3, 1) := by decide +kernel
theorem md_L_law_230 : decode code 230 = .ok (.iconst 1, 1) := by decide +kernel
theorem md_L_law_231 : decode code 231 = .ok (.iadd, 1) := by decide +kernel
theorem md_L_law_232 : decode code 232 = .ok (.iaload, 1) := by decide +kernel
theorem md_L_law_233 : decode code 233 = .ok (.aload_n 0, 1) := by decide +kernel
theorem md_L_law_234 : decode code 234 = .ok (.iload_n 3, 1) := by decide +kernel
theorem md_L_law_235 : decode code 235 = .ok (.iconst 2, 1) := by decide +kernel
theorem md_L_law_236 : decode code 236 = .ok (.iadd, 1) := by decide +kernel
theorem md_L_law_237 : decode code 237 = .ok (.iaload, 1) := by decide +kernel
theorem md_L_law_238 : decode code 238 = .ok (.invokevirtual 29, 3) := by decide +kernel
theorem md_L_law_241 : decode code 241 = .ok (.pop2, 1) := by decide +kernel
theorem md_L_law_242 : decode code 242 = .ok (.goto 430, 3) := by decide +kernel
theorem md_L_law_245 : decode code 245 = .ok (.aload_n 1, 1) := by decide +kernel
theorem md_L_law_246 : decode code 246 = .ok (.aload_n 0, 1) := by decide +kernel
theorem md_L_law_247 : decode code 247 = .ok (.iload_n 3, 1) := by decide +kernel
theorem md_L_law_248 : decode code 248 = .ok (.iconst 1, 1) := by decide +kernel
theorem md_L_law_249 : decode code 249 = .ok (.iadd, 1) := by decide +kernel
theorem md_L_law_250 : decode code 250 = .ok (.iaload, 1) := by decide +kernel
theorem md_L_law_251 : decode code 251 = .ok (.aload_n 0, 1) := by decide +kernel
theorem md_L_law_252 : decode code 252 = .ok (.iload_n 3, 1) := by decide +kernel
theorem md_L_law_253 : decode code 253 = .ok (.iconst 2, 1) := by decide +kernel
theorem md_L_law_254 : decode code 254 = .ok (.iadd, 1) := by decide +kernel
theorem md_L_law_255 : decode code 255 = .ok (.iaload, 1) := by decide +kernel
theorem md_L_law_256 : decode code 256 = .ok (.aload_n 0, 1) := by decide +kernel
theorem md_L_law_257 : decode code 257 = .ok (.iload_n 3, 1) := by decide +kernel
theorem md_L_law_258 : decode code 258 = .ok (.iconst 3, 1) := by decide +kernel
theorem md_L_law_259 : decode code 259 = .ok (.iadd, 1) := by decide +kernel
theorem md_L_law_260 : decode code 260 = .ok (.iaload, 1) := by decide +kernel
theorem md_L_law_261 : decode code 261 = .ok (.aload_n 0, 1) := by decide +kernel
theorem md_L_law_262 : decode code 262 = .ok (.iload_n 3, 1) := by decide +kernel
theorem md_L_law_263 : decode code 263 = .ok (.iconst 4, 1) := by decide +kernel
theorem md_L_law_264 : decode code 264 = .ok (.iadd, 1) := by decide +kernel
theorem md_L_law_265 : decode code 265 = .ok (.iaload, 1) := by decide +kernel
theorem md_L_law_266 : decode code 266 = .ok (.aload_n 0, 1) := by decide +kernel
theorem md_L_law_267 : decode code 267 = .ok (.iload_n 3, 1) := by decide +kernel
theorem md_L_law_268 : decode code 268 = .ok (.iconst 5, 1) := by decide +kernel
theorem md_L_law_269 : decode code 269 = .ok (.iadd, 1) := by decide +kernel
theorem md_L_law_270 : decode code 270 = .ok (.iaload, 1) := by decide +kernel
theorem md_L_law_271 : decode code 271 = .ok (.invokevirtual 30, 3) := by decide +kernel
theorem md_L_law_274 : decode code 274 = .ok (.pop, 1) := by decide +kernel
theorem md_L_law_275 : decode code 275 = .ok (.aload_n 2, 1) := by decide +kernel
theorem md_L_law_276 : decode code 276 = .ok (.aload_n 0, 1) := by decide +kernel
theorem md_L_law_277 : decode code 277 = .ok (.iload_n 3, 1) := by decide +kernel
theorem md_L_law_278 : decode code 278 = .ok (.iconst 1, 1) := by decide +kernel
theorem md_L_law_279 : decode code 279 = .ok (.iadd, 1) := by decide +kernel
theorem md_L_law_280 : decode code 280 = .ok (.iaload, 1) := by decide +kernel
theorem md_L_law_281 : decode code 281 = .ok (.aload_n 0, 1) := by decide +kernel
theorem md_L_law_282 : decode code 282 = .ok (.iload_n 3, 1) := by decide +kernel
theorem md_L_law_283 : decode code 283 = .ok (.iconst 2, 1) := by decide +kernel
theorem md_L_law_284 : decode code 284 = .ok (.iadd, 1) := by decide +kernel
theorem md_L_law_285 : decode code 285 = .ok (.iaload, 1) := by decide +kernel
theorem md_L_law_286 : decode code 286 = .ok (.aload_n 0, 1) := by decide +kernel
theorem md_L_law_287 : decode code 287 = .ok (.iload_n 3, 1) := by decide +kernel
theorem md_L_law_288 : decode code 288 = .ok (.iconst 3, 1) := by decide +kernel
theorem md_L_law_289 : decode code 289 = .ok (.iadd, 1) := by decide +kernel
theorem md_L_law_290 : decode code 290 = .ok (.iaload, 1) := by decide +kernel
theorem md_L_law_291 : decode code 291 = .ok (.aload_n 0, 1) := by decide +kernel
theorem md_L_law_292 : decode code 292 = .ok (.iload_n 3, 1) := by decide +kernel
theorem md_L_law_293 : decode code 293 = .ok (.iconst 4, 1) := by decide +kernel
theorem md_L_law_294 : decode code 294 = .ok (.iadd, 1) := by decide +kernel
theorem md_L_law_295 : decode code 295 = .ok (.iaload, 1) := by decide +kernel
theorem md_L_law_296 : decode code 296 = .ok (.aload_n 0, 1) := by decide +kernel
theorem md_L_law_297 : decode code 297 = .ok (.iload_n 3, 1) := by decide +kernel
theorem md_L_law_298 : decode code 298 = .ok (.iconst 5, 1) := by decide +kernel
theorem md_L_law_299 : decode code 299 = .ok (.iadd, 1) := by decide +kernel
theorem md_L_law_300 : decode code 300 = .ok (.iaload, 1) := by decide +kernel
theorem md_L_law_301 : decode code 301 = .ok (.invokevirtual 34, 3) := by decide +kernel
theorem md_L_law_304 : decode code 304 = .ok (.pop, 1) := by decide +kernel
theorem md_L_law_305 : decode code 305 = .ok (.goto 367, 3) := by decide +kernel
theorem md_L_law_308 : decode code 308 = .ok (.aload_n 1, 1) := by decide +kernel
theorem md_L_law_309 : decode code 309 = .ok (.aload_n 0, 1) := by decide +kernel
theorem md_L_law_310 : decode code 310 = .ok (.iload_n 3, 1) := by decide +kernel
theorem md_L_law_311 : decode code 311 = .ok (.iconst 1, 1) := by decide +kernel
theorem md_L_law_312 : decode code 312 = .ok (.iadd, 1) := by decide +kernel
theorem md_L_law_313 : decode code 313 = .ok (.iaload, 1) := by decide +kernel
theorem md_L_law_314 : decode code 314 = .ok (.aload_n 0, 1) := by decide +kernel
theorem md_L_law_315 : decode code 315 = .ok (.iload_n 3, 1) := by decide +kernel
theorem md_L_law_316 : decode code 316 = .ok (.iconst 2, 1) := by decide +kernel
theorem md_L_law_317 : decode code 317 = .ok (.iadd, 1) := by decide +kernel
theorem md_L_law_318 : decode code 318 = .ok (.iaload, 1) := by decide +kernel
theorem md_L_law_319 : decode code 319 = .ok (.aload_n 0, 1) := by decide +kernel
theorem md_L_law_320 : decode code 320 = .ok (.iload_n 3, 1) := by decide +kernel
theorem md_L_law_321 : decode code 321 = .ok (.iconst 3, 1) := by decide +kernel
theorem md_L_law_322 : decode code 322 = .ok (.iadd, 1) := by decide +kernel
theorem md_L_law_323 : decode code 323 = .ok (.iaload, 1) := by decide +kernel
theorem md_L_law_324 : decode code 324 = .ok (.aload_n 0, 1) := by decide +kernel
theorem md_L_law_325 : decode code 325 = .ok (.iload_n 3, 1) := by decide +kernel
theorem md_L_law_326 : decode code 326 = .ok (.iconst 4, 1) := by decide +kernel
theorem md_L_law_327 : decode code 327 = .ok (.iadd, 1) := by decide +kernel
theorem md_L_law_328 : decode code 328 = .ok (.iaload, 1) := by decide +kernel
theorem md_L_law_329 : decode code 329 = .ok (.aload_n 0, 1) := by decide +kernel
theorem md_L_law_330 : decode code 330 = .ok (.iload_n 3, 1) := by decide +kernel
theorem md_L_law_331 : decode code 331 = .ok (.iconst 5, 1) := by decide +kernel
theorem md_L_law_332 : decode code 332 = .ok (.iadd, 1) := by decide +kernel
theorem md_L_law_333 : decode code 333 = .ok (.iaload, 1) := by decide +kernel
theorem md_L_law_334 : decode code 334 = .ok (.invokevirtual 35, 3) := by decide +kernel
theorem md_L_law_337 : decode code 337 = .ok (.pop, 1) := by decide +kernel
theorem md_L_law_338 : decode code 338 = .ok (.aload_n 2, 1) := by decide +kernel
theorem md_L_law_339 : decode code 339 = .ok (.aload_n 0, 1) := by decide +kernel
theorem md_L_law_340 : decode code 340 = .ok (.iload_n 3, 1) := by decide +kernel
theorem md_L_law_341 : decode code 341 = .ok (.iconst 1, 1) := by decide +kernel
theorem md_L_law_342 : decode code 342 = .ok (.iadd, 1) := by decide +kernel
theorem md_L_law_343 : decode code 343 = .ok (.iaload, 1) := by decide +kernel
theorem md_L_law_344 : decode code 344 = .ok (.aload_n 0, 1) := by decide +kernel
theorem md_L_law_345 : decode code 345 = .ok (.iload_n 3, 1) := by decide +kernel
theorem md_L_law_346 : decode code 346 = .ok (.iconst 2, 1) := by decide +kernel
theorem md_L_law_347 : decode code 347 = .ok (.iadd, 1) := by decide +kernel
theorem md_L_law_348 : decode code 348 = .ok (.iaload, 1) := by decide +kernel
theorem md_L_law_349 : decode code 349 = .ok (.aload_n 0, 1) := by decide +kernel
theorem md_L_law_350 : decode code 350 = .ok (.iload_n 3, 1) := by decide +kernel
theorem md_L_law_351 : decode code 351 = .ok (.iconst 3, 1) := by decide +kernel
theorem md_L_law_352 : decode code 352 = .ok (.iadd, 1) := by decide +kernel
theorem md_L_law_353 : decode code 353 = .ok (.iaload, 1) := by decide +kernel
theorem md_L_law_354 : decode code 354 = .ok (.aload_n 0, 1) := by decide +kernel
theorem md_L_law_355 : decode code 355 = .ok (.iload_n 3, 1) := by decide +kernel
theorem md_L_law_356 : decode code 356 = .ok (.iconst 4, 1) := by decide +kernel
theorem md_L_law_357 : decode code 357 = .ok (.iadd, 1) := by decide +kernel
theorem md_L_law_358 : decode code 358 = .ok (.iaload, 1) := by decide +kernel
theorem md_L_law_359 : decode code 359 = .ok (.aload_n 0, 1) := by decide +kernel
theorem md_L_law_360 : decode code 360 = .ok (.iload_n 3, 1) := by decide +kernel
theorem md_L_law_361 : decode code 361 = .ok (.iconst 5, 1) := by decide +kernel
theorem md_L_law_362 : decode code 362 = .ok (.iadd, 1) := by decide +kernel
theorem md_L_law_363 : decode code 363 = .ok (.iaload, 1) := by decide +kernel
theorem md_L_law_364 : decode code 364 = .ok (.invokevirtual 38, 3) := by decide +kernel
theorem md_L_law_367 : decode code 367 = .ok (.pop, 1) := by decide +kernel
theorem md_L_law_368 : decode code 368 = .ok (.goto 304, 3) := by decide +kernel
theorem md_L_law_371 : decode code 371 = .ok (.aload_n 1, 1) := by decide +kernel
theorem md_L_law_372 : decode code 372 = .ok (.aload_n 0, 1) := by decide +kernel
theorem md_L_law_373 : decode code 373 = .ok (.iload_n 3, 1) := by decide +kernel
theorem md_L_law_374 : decode code 374 = .ok (.iconst 1, 1) := by decide +kernel
theorem md_L_law_375 : decode code 375 = .ok (.iadd, 1) := by decide +kernel
theorem md_L_law_376 : decode code 376 = .ok (.iaload, 1) := by decide +kernel
theorem md_L_law_377 : decode code 377 = .ok (.aload_n 0, 1) := by decide +kernel
theorem md_L_law_378 : decode code 378 = .ok (.iload_n 3, 1) := by decide +kernel
theorem md_L_law_379 : decode code 379 = .ok (.iconst 2, 1) := by decide +kernel
theorem md_L_law_380 : decode code 380 = .ok (.iadd, 1) := by decide +kernel
theorem md_L_law_381 : decode code 381 = .ok (.iaload, 1) := by decide +kernel
theorem md_L_law_382 : decode code 382 = .ok (.aload_n 0, 1) := by decide +kernel
theorem md_L_law_383 : decode code 383 = .ok (.iload_n 3, 1) := by decide +kernel
theorem md_L_law_384 : decode code 384 = .ok (.iconst 3, 1) := by decide +kernel
theorem md_L_law_385 : decode code 385 = .ok (.iadd, 1) := by decide +kernel
theorem md_L_law_386 : decode code 386 = .ok (.iaload, 1) := by decide +kernel
theorem md_L_law_387 : decode code 387 = .ok (.aload_n 0, 1) := by decide +kernel
theorem md_L_law_388 : decode code 388 = .ok (.iload_n 3, 1) := by decide +kernel
theorem md_L_law_389 : decode code 389 = .ok (.iconst 4, 1) := by decide +kernel
theorem md_L_law_390 : decode code 390 = .ok (.iadd, 1) := by decide +kernel
theorem md_L_law_391 : decode code 391 = .ok (.iaload, 1) := by decide +kernel
theorem md_L_law_392 : decode code 392 = .ok (.invokevirtual 39, 3) := by decide +kernel
theorem md_L_law_395 : decode code 395 = .ok (.pop, 1) := by decide +kernel
theorem md_L_law_396 : decode code 396 = .ok (.aload_n 2, 1) := by decide +kernel
theorem md_L_law_397 : decode code 397 = .ok (.aload_n 0, 1) := by decide +kernel
theorem md_L_law_398 : decode code 398 = .ok (.iload_n 3, 1) := by decide +kernel
theorem md_L_law_399 : decode code 399 = .ok (.iconst 1, 1) := by decide +kernel
theorem md_L_law_400 : decode code 400 = .ok (.iadd, 1) := by decide +kernel
theorem md_L_law_401 : decode code 401 = .ok (.iaload, 1) := by decide +kernel
theorem md_L_law_402 : decode code 402 = .ok (.aload_n 0, 1) := by decide +kernel
theorem md_L_law_403 : decode code 403 = .ok (.iload_n 3, 1) := by decide +kernel
theorem md_L_law_404 : decode code 404 = .ok (.iconst 2, 1) := by decide +kernel
theorem md_L_law_405 : decode code 405 = .ok (.iadd, 1) := by decide +kernel
theorem md_L_law_406 : decode code 406 = .ok (.iaload, 1) := by decide +kernel
theorem md_L_law_407 : decode code 407 = .ok (.aload_n 0, 1) := by decide +kernel
theorem md_L_law_408 : decode code 408 = .ok (.iload_n 3, 1) := by decide +kernel
theorem md_L_law_409 : decode code 409 = .ok (.iconst 3, 1) := by decide +kernel
theorem md_L_law_410 : decode code 410 = .ok (.iadd, 1) := by decide +kernel
theorem md_L_law_411 : decode code 411 = .ok (.iaload, 1) := by decide +kernel
theorem md_L_law_412 : decode code 412 = .ok (.aload_n 0, 1) := by decide +kernel
theorem md_L_law_413 : decode code 413 = .ok (.iload_n 3, 1) := by decide +kernel
theorem md_L_law_414 : decode code 414 = .ok (.iconst 4, 1) := by decide +kernel
theorem md_L_law_415 : decode code 415 = .ok (.iadd, 1) := by decide +kernel
theorem md_L_law_416 : decode code 416 = .ok (.iaload, 1) := by decide +kernel
theorem md_L_law_417 : decode code 417 = .ok (.invokevirtual 43, 3) := by decide +kernel
theorem md_L_law_420 : decode code 420 = .ok (.pop, 1) := by decide +kernel
theorem md_L_law_421 : decode code 421 = .ok (.goto 251, 3) := by decide +kernel
theorem md_L_law_424 : decode code 424 = .ok (.aload_n 1, 1) := by decide +kernel
theorem md_L_law_425 : decode code 425 = .ok (.aload_n 0, 1) := by decide +kernel
theorem md_L_law_426 : decode code 426 = .ok (.iload_n 3, 1) := by decide +kernel
theorem md_L_law_427 : decode code 427 = .ok (.iconst 1, 1) := by decide +kernel
theorem md_L_law_428 : decode code 428 = .ok (.iadd, 1) := by decide +kernel
theorem md_L_law_429 : decode code 429 = .ok (.iaload, 1) := by decide +kernel
theorem md_L_law_430 : decode code 430 = .ok (.aload_n 0, 1) := by decide +kernel
theorem md_L_law_431 : decode code 431 = .ok (.iload_n 3, 1) := by decide +kernel
theorem md_L_law_432 : decode code 432 = .ok (.iconst 2, 1) := by decide +kernel
theorem md_L_law_433 : decode code 433 = .ok (.iadd, 1) := by decide +kernel
theorem md_L_law_434 : decode code 434 = .ok (.iaload, 1) := by decide +kernel
theorem md_L_law_435 : decode code 435 = .ok (.aload_n 0, 1) := by decide +kernel
theorem md_L_law_436 : decode code 436 = .ok (.iload_n 3, 1) := by decide +kernel
theorem md_L_law_437 : decode code 437 = .ok (.iconst 3, 1) := by decide +kernel
theorem md_L_law_438 : decode code 438 = .ok (.iadd, 1) := by decide +kernel
theorem md_L_law_439 : decode code 439 = .ok (.iaload, 1) := by decide +kernel
theorem md_L_law_440 : decode code 440 = .ok (.invokevirtual 44, 3) := by decide +kernel
theorem md_L_law_443 : decode code 443 = .ok (.pop, 1) := by decide +kernel
theorem md_L_law_444 : decode code 444 = .ok (.aload_n 2, 1) := by decide +kernel
theorem md_L_law_445 : decode code 445 = .ok (.aload_n 0, 1) := by decide +kernel
theorem md_L_law_446 : decode code 446 = .ok (.iload_n 3, 1) := by decide +kernel
theorem md_L_law_447 : decode code 447 = .ok (.iconst 1, 1) := by decide +kernel
theorem md_L_law_448 : decode code 448 = .ok (.iadd, 1) := by decide +kernel
theorem md_L_law_449 : decode code 449 = .ok (.iaload, 1) := by decide +kernel
theorem md_L_law_450 : decode code 450 = .ok (.aload_n 0, 1) := by decide +kernel
theorem md_L_law_451 : decode code 451 = .ok (.iload_n 3, 1) := by decide +kernel
theorem md_L_law_452 : decode code 452 = .ok (.iconst 2, 1) := by decide +kernel
theorem md_L_law_453 : decode code 453 = .ok (.iadd, 1) := by decide +kernel
theorem md_L_law_454 : decode code 454 = .ok (.iaload, 1) := by decide +kernel
theorem md_L_law_455 : decode code 455 = .ok (.aload_n 0, 1) := by decide +kernel
theorem md_L_law_456 : decode code 456 = .ok (.iload_n 3, 1) := by decide +kernel
theorem md_L_law_457 : decode code 457 = .ok (.iconst 3, 1) := by decide +kernel
theorem md_L_law_458 : decode code 458 = .ok (.iadd, 1) := by decide +kernel
theorem md_L_law_459 : decode code 459 = .ok (.iaload, 1) := by decide +kernel
theorem md_L_law_460 : decode code 460 = .ok (.invokevirtual 47, 3) := by decide +kernel
theorem md_L_law_463 : decode code 463 = .ok (.pop, 1) := by decide +kernel
theorem md_L_law_464 : decode code 464 = .ok (.goto 208, 3) := by decide +kernel
theorem md_L_law_467 : decode code 467 = .ok (.aload_n 1, 1) := by decide +kernel
theorem md_L_law_468 : decode code 468 = .ok (.aload_n 0, 1) := by decide +kernel
theorem md_L_law_469 : decode code 469 = .ok (.iload_n 3, 1) := by decide +kernel
theorem md_L_law_470 : decode code 470 = .ok (.iconst 1, 1) := by decide +kernel
theorem md_L_law_471 : decode code 471 = .ok (.iadd, 1) := by decide +kernel
theorem md_L_law_472 : decode code 472 = .ok (.iaload, 1) := by decide +kernel
theorem md_L_law_473 : decode code 473 = .ok (.aload_n 0, 1) := by decide +kernel
theorem md_L_law_474 : decode code 474 = .ok (.iload_n 3, 1) := by decide +kernel
theorem md_L_law_475 : decode code 475 = .ok (.iconst 2, 1) := by decide +kernel
theorem md_L_law_476 : decode code 476 = .ok (.iadd, 1) := by decide +kernel
theorem md_L_law_477 : decode code 477 = .ok (.iaload, 1) := by decide +kernel
theorem md_L_law_478 : decode code 478 = .ok (.aload_n 0, 1) := by decide +kernel
theorem md_L_law_479 : decode code 479 = .ok (.iload_n 3, 1) := by decide +kernel
theorem md_L_law_480 : decode code 480 = .ok (.iconst 3, 1) := by decide +kernel
theorem md_L_law_481 : decode code 481 = .ok (.iadd, 1) := by decide +kernel
theorem md_L_law_482 : decode code 482 = .ok (.iaload, 1) := by decide +kernel
theorem md_L_law_483 : decode code 483 = .ok (.invokevirtual 48, 3) := by decide +kernel
theorem md_L_law_486 : decode code 486 = .ok (.pop, 1) := by decide +kernel
theorem md_L_law_487 : decode code 487 = .ok (.aload_n 2, 1) := by decide +kernel
theorem md_L_law_488 : decode code 488 = .ok (.aload_n 0, 1) := by decide +kernel
theorem md_L_law_489 : decode code 489 = .ok (.iload_n 3, 1) := by decide +kernel
theorem md_L_law_490 : decode code 490 = .ok (.iconst 1, 1) := by decide +kernel
theorem md_L_law_491 : decode code 491 = .ok (.iadd, 1) := by decide +kernel
theorem md_L_law_492 : decode code 492 = .ok (.iaload, 1) := by decide +kernel
theorem md_L_law_493 : decode code 493 = .ok (.aload_n 0, 1) := by decide +kernel
theorem md_L_law_494 : decode code 494 = .ok (.iload_n 3, 1) := by decide +kernel
theorem md_L_law_495 : decode code 495 = .ok (.iconst 2, 1) := by decide +kernel
theorem md_L_law_496 : decode code 496 = .ok (.iadd, 1) := by decide +kernel
theorem md_L_law_497 : decode code 497 = .ok (.iaload, 1) := by decide +kernel
theorem md_L_law_498 : decode code 498 = .ok (.aload_n 0, 1) := by decide +kernel
theorem md_L_law_499 : decode code 499 = .ok (.iload_n 3, 1) := by decide +kernel
theorem md_L_law_500 : decode code 500 = .ok (.iconst 3, 1) := by decide +kernel
theorem md_L_law_501 : decode code 501 = .ok (.iadd, 1) := by decide +kernel
theorem md_L_law_502 : decode code 502 = .ok (.iaload, 1) := by decide +kernel
theorem md_L_law_503 : decode code 503 = .ok (.invokevirtual 51, 3) := by decide +kernel
theorem md_L_law_506 : decode code 506 = .ok (.pop, 1) := by decide +kernel
theorem md_L_law_507 : decode code 507 = .ok (.goto 165, 3) := by decide +kernel
theorem md_L_law_510 : decode code 510 = .ok (.aload_n 1, 1) := by decide +kernel
theorem md_L_law_511 : decode code 511 = .ok (.aload_n 0, 1) := by decide +kernel
theorem md_L_law_512 : decode code 512 = .ok (.iload_n 3, 1) := by decide +kernel
theorem md_L_law_513 : decode code 513 = .ok (.iconst 1, 1) := by decide +kernel
theorem md_L_law_514 : decode code 514 = .ok (.iadd, 1) := by decide +kernel
theorem md_L_law_515 : decode code 515 = .ok (.iaload, 1) := by decide +kernel
theorem md_L_law_516 : decode code 516 = .ok (.aload_n 0, 1) := by decide +kernel
theorem md_L_law_517 : decode code 517 = .ok (.iload_n 3, 1) := by decide +kernel
theorem md_L_law_518 : decode code 518 = .ok (.iconst 2, 1) := by decide +kernel
theorem md_L_law_519 : decode code 519 = .ok (.iadd, 1) := by decide +kernel
theorem md_L_law_520 : decode code 520 = .ok (.iaload, 1) := by decide +kernel
theorem md_L_law_521 : decode code 521 = .ok (.aload_n 0, 1) := by decide +kernel
theorem md_L_law_522 : decode code 522 = .ok (.iload_n 3, 1) := by decide +kernel
theorem md_L_law_523 : decode code 523 = .ok (.iconst 3, 1) := by decide +kernel
theorem md_L_law_524 : decode code 524 = .ok (.iadd, 1) := by decide +kernel
theorem md_L_law_525 : decode code 525 = .ok (.iaload, 1) := by decide +kernel
theorem md_L_law_526 : decode code 526 = .ok (.invokevirtual 52, 3) := by decide +kernel
theorem md_L_law_529 : decode code 529 = .ok (.pop, 1) := by decide +kernel
theorem md_L_law_530 : decode code 530 = .ok (.aload_n 2, 1) := by decide +kernel
theorem md_L_law_531 : decode code 531 = .ok (.aload_n 0, 1) := by decide +kernel
theorem md_L_law_532 : decode code 532 = .ok (.iload_n 3, 1) := by decide +kernel
theorem md_L_law_533 : decode code 533 = .ok (.iconst 1, 1) := by decide +kernel
theorem md_L_law_534 : decode code 534 = .ok (.iadd, 1) := by decide +kernel
theorem md_L_law_535 : decode code 535 = .ok (.iaload, 1) := by decide +kernel
theorem md_L_law_536 : decode code 536 = .ok (.aload_n 0, 1) := by decide +kernel
theorem md_L_law_537 : decode code 537 = .ok (.iload_n 3, 1) := by decide +kernel
theorem md_L_law_538 : decode code 538 = .ok (.iconst 2, 1) := by decide +kernel
theorem md_L_law_539 : decode code 539 = .ok (.iadd, 1) := by decide +kernel
theorem md_L_law_540 : decode code 540 = .ok (.iaload, 1) := by decide +kernel
theorem md_L_law_541 : decode code 541 = .ok (.aload_n 0, 1) := by decide +kernel
theorem md_L_law_542 : decode code 542 = .ok (.iload_n 3, 1) := by decide +kernel
theorem md_L_law_543 : decode code 543 = .ok (.iconst 3, 1) := by decide +kernel
theorem md_L_law_544 : decode code 544 = .ok (.iadd, 1) := by decide +kernel
theorem md_L_law_545 : decode code 545 = .ok (.iaload, 1) := by decide +kernel
theorem md_L_law_546 : decode code 546 = .ok (.invokevirtual 55, 3) := by decide +kernel
theorem md_L_law_549 : decode code 549 = .ok (.pop, 1) := by decide +kernel
theorem md_L_law_550 : decode code 550 = .ok (.goto 122, 3) := by decide +kernel
theorem md_L_law_553 : decode code 553 = .ok (.aload_n 1, 1) := by decide +kernel
theorem md_L_law_554 : decode code 554 = .ok (.aload_n 0, 1) := by decide +kernel
theorem md_L_law_555 : decode code 555 = .ok (.iload_n 3, 1) := by decide +kernel
theorem md_L_law_556 : decode code 556 = .ok (.iconst 1, 1) := by decide +kernel
theorem md_L_law_557 : decode code 557 = .ok (.iadd, 1) := by decide +kernel
theorem md_L_law_558 : decode code 558 = .ok (.iaload, 1) := by decide +kernel
theorem md_L_law_559 : decode code 559 = .ok (.aload_n 0, 1) := by decide +kernel
theorem md_L_law_560 : decode code 560 = .ok (.iload_n 3, 1) := by decide +kernel
theorem md_L_law_561 : decode code 561 = .ok (.iconst 2, 1) := by decide +kernel
theorem md_L_law_562 : decode code 562 = .ok (.iadd, 1) := by decide +kernel
theorem md_L_law_563 : decode code 563 = .ok (.iaload, 1) := by decide +kernel
theorem md_L_law_564 : decode code 564 = .ok (.invokevirtual 56, 3) := by decide +kernel
theorem md_L_law_567 : decode code 567 = .ok (.pop, 1) := by decide +kernel
theorem md_L_law_568 : decode code 568 = .ok (.aload_n 2, 1) := by decide +kernel
theorem md_L_law_569 : decode code 569 = .ok (.aload_n 0, 1) := by decide +kernel
theorem md_L_law_570 : decode code 570 = .ok (.iload_n 3, 1) := by decide +kernel
theorem md_L_law_571 : decode code 571 = .ok (.iconst 1, 1) := by decide +kernel
theorem md_L_law_572 : decode code 572 = .ok (.iadd, 1) := by decide +kernel
theorem md_L_law_573 : decode code 573 = .ok (.iaload, 1) := by decide +kernel
theorem md_L_law_574 : decode code 574 = .ok (.aload_n 0, 1) := by decide +kernel
theorem md_L_law_575 : decode code 575 = .ok (.iload_n 3, 1) := by decide +kernel
theorem md_L_law_576 : decode code 576 = .ok (.iconst 2, 1) := by decide +kernel
theorem md_L_law_577 : decode code 577 = .ok (.iadd, 1) := by decide +kernel
theorem md_L_law_578 : decode code 578 = .ok (.iaload, 1) := by decide +kernel
theorem md_L_law_579 : decode code 579 = .ok (.invokevirtual 60, 3) := by decide +kernel
theorem md_L_law_582 : decode code 582 = .ok (.pop, 1) := by decide +kernel
theorem md_L_law_583 : decode code 583 = .ok (.goto 89, 3) := by decide +kernel
theorem md_L_law_586 : decode code 586 = .ok (.aload_n 1, 1) := by decide +kernel
theorem md_L_law_587 : decode code 587 = .ok (.aload_n 0, 1) := by decide +kernel
theorem md_L_law_588 : decode code 588 = .ok (.iload_n 3, 1) := by decide +kernel
theorem md_L_law_589 : decode code 589 = .ok (.iconst 1, 1) := by decide +kernel
theorem md_L_law_590 : decode code 590 = .ok (.iadd, 1) := by decide +kernel
theorem md_L_law_591 : decode code 591 = .ok (.iaload, 1) := by decide +kernel
theorem md_L_law_592 : decode code 592 = .ok (.aload_n 0, 1) := by decide +kernel
theorem md_L_law_593 : decode code 593 = .ok (.iload_n 3, 1) := by decide +kernel
theorem md_L_law_594 : decode code 594 = .ok (.iconst 2, 1) := by decide +kernel
theorem md_L_law_595 : decode code 595 = .ok (.iadd, 1) := by decide +kernel
theorem md_L_law_596 : decode code 596 = .ok (.iaload, 1) := by decide +kernel
theorem md_L_law_597 : decode code 597 = .ok (.aload_n 0, 1) := by decide +kernel
theorem md_L_law_598 : decode code 598 = .ok (.iload_n 3, 1) := by decide +kernel
theorem md_L_law_599 : decode code 599 = .ok (.iconst 3, 1) := by decide +kernel
theorem md_L_law_600 : decode code 600 = .ok (.iadd, 1) := by decide +kernel
theorem md_L_law_601 : decode code 601 = .ok (.iaload, 1) := by decide +kernel
theorem md_L_law_602 : decode code 602 = .ok (.aload_n 0, 1) := by decide +kernel
theorem md_L_law_603 : decode code 603 = .ok (.iload_n 3, 1) := by decide +kernel
theorem md_L_law_604 : decode code 604 = .ok (.iconst 4, 1) := by decide +kernel
theorem md_L_law_605 : decode code 605 = .ok (.iadd, 1) := by decide +kernel
theorem md_L_law_606 : decode code 606 = .ok (.iaload, 1) := by decide +kernel
theorem md_L_law_607 : decode code 607 = .ok (.invokevirtual 61, 3) := by decide +kernel
theorem md_L_law_610 : decode code 610 = .ok (.pop, 1) := by decide +kernel
theorem md_L_law_611 : decode code 611 = .ok (.aload_n 2, 1) := by decide +kernel
theorem md_L_law_612 : decode code 612 = .ok (.aload_n 0, 1) := by decide +kernel
theorem md_L_law_613 : decode code 613 = .ok (.iload_n 3, 1) := by decide +kernel
theorem md_L_law_614 : decode code 614 = .ok (.iconst 1, 1) := by decide +kernel
theorem md_L_law_615 : decode code 615 = .ok (.iadd, 1) := by decide +kernel
theorem md_L_law_616 : decode code 616 = .ok (.iaload, 1) := by decide +kernel
theorem md_L_law_617 : decode code 617 = .ok (.aload_n 0, 1) := by decide +kernel
theorem md_L_law_618 : decode code 618 = .ok (.iload_n 3, 1) := by decide +kernel
theorem md_L_law_619 : decode code 619 = .ok (.iconst 2, 1) := by decide +kernel
theorem md_L_law_620 : decode code 620 = .ok (.iadd, 1) := by decide +kernel
theorem md_L_law_621 : decode code 621 = .ok (.iaload, 1) := by decide +kernel
theorem md_L_law_622 : decode code 622 = .ok (.aload_n 0, 1) := by decide +kernel
theorem md_L_law_623 : decode code 623 = .ok (.iload_n 3, 1) := by decide +kernel
theorem md_L_law_624 : decode code 624 = .ok (.iconst 3, 1) := by decide +kernel
theorem md_L_law_625 : decode code 625 = .ok (.iadd, 1) := by decide +kernel
theorem md_L_law_626 : decode code 626 = .ok (.iaload, 1) := by decide +kernel
theorem md_L_law_627 : decode code 627 = .ok (.aload_n 0, 1) := by decide +kernel
theorem md_L_law_628 : decode code 628 = .ok (.iload_n 3, 1) := by decide +kernel
theorem md_L_law_629 : decode code 629 = .ok (.iconst 4, 1) := by decide +kernel
theorem md_L_law_630 : decode code 630 = .ok (.iadd, 1) := by decide +kernel
theorem md_L_law_631 : decode code 631 = .ok (.iaload, 1) := by decide +kernel
theorem md_L_law_632 : decode code 632 = .ok (.invokevirtual 64, 3) := by decide +kernel
theorem md_L_law_635 : decode code 635 = .ok (.pop, 1) := by decide +kernel
theorem md_L_law_636 : decode code 636 = .ok (.goto 36, 3) := by decide +kernel
theorem md_L_law_639 : decode code 639 = .ok (.aload_n 1, 1) := by decide +kernel
theorem md_L_law_640 : decode code 640 = .ok (.aload_n 0, 1) := by decide +kernel
theorem md_L_law_641 : decode code 641 = .ok (.iload_n 3, 1) := by decide +kernel
theorem md_L_law_642 : decode code 642 = .ok (.iconst 1, 1) := by decide +kernel
theorem md_L_law_643 : decode code 643 = .ok (.iadd, 1) := by decide +kernel
theorem md_L_law_644 : decode code 644 = .ok (.iaload, 1) := by decide +kernel
theorem md_L_law_645 : decode code 645 = .ok (.aload_n 0, 1) := by decide +kernel
theorem md_L_law_646 : decode code 646 = .ok (.iload_n 3, 1) := by decide +kernel
theorem md_L_law_647 : decode code 647 = .ok (.iconst 2, 1) := by decide +kernel
theorem md_L_law_648 : decode code 648 = .ok (.iadd, 1) := by decide +kernel
theorem md_L_law_649 : decode code 649 = .ok (.iaload, 1) := by decide +kernel
theorem md_L_law_650 : decode code 650 = .ok (.invokevirtual 65, 3) := by decide +kernel
theorem md_L_law_653 : decode code 653 = .ok (.aload_n 2, 1) := by decide +kernel
theorem md_L_law_654 : decode code 654 = .ok (.aload_n 0, 1) := by decide +kernel
theorem md_L_law_655 : decode code 655 = .ok (.iload_n 3, 1) := by decide +kernel
theorem md_L_law_656 : decode code 656 = .ok (.iconst 1, 1) := by decide +kernel
theorem md_L_law_657 : decode code 657 = .ok (.iadd, 1) := by decide +kernel
theorem md_L_law_658 : decode code 658 = .ok (.iaload, 1) := by decide +kernel
theorem md_L_law_659 : decode code 659 = .ok (.aload_n 0, 1) := by decide +kernel
theorem md_L_law_660 : decode code 660 = .ok (.iload_n 3, 1) := by decide +kernel
theorem md_L_law_661 : decode code 661 = .ok (.iconst 2, 1) := by decide +kernel
theorem md_L_law_662 : decode code 662 = .ok (.iadd, 1) := by decide +kernel
theorem md_L_law_663 : decode code 663 = .ok (.iaload, 1) := by decide +kernel
theorem md_L_law_664 : decode code 664 = .ok (.invokevirtual 68, 3) := by decide +kernel
theorem md_L_law_667 : decode code 667 = .ok (.if_icmp .eq 5, 3) := by decide +kernel
theorem md_L_law_670 : decode code 670 = .ok (.iconst 0, 1) := by decide +kernel
theorem md_L_law_671 : decode code 671 = .ok (.ireturn, 1) := by decide +kernel
theorem md_L_law_672 : decode code 672 = .ok (.iinc 3 6, 3) := by decide +kernel
theorem md_L_law_675 : decode code 675 = .ok (.goto (-657), 3) := by decide +kernel
theorem md_L_law_678 : decode code 678 = .ok (.iconst 1, 1) := by decide +kernel
theorem md_L_law_679 : decode code 679 = .ok (.ireturn, 1) := by decide +kernel
