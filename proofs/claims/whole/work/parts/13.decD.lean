/-! decode rows (written by wip/whole/prog/mknames.py) -/
theorem d_La_law_0 : decode code 0 = .ok (.new 7, 3) := by decide +kernel
theorem d_La_law_3 : decode code 3 = .ok (.dup, 1) := by decide +kernel
theorem d_La_law_4 : decode code 4 = .ok (.invokespecial 9, 3) := by decide +kernel
theorem d_La_law_7 : decode code 7 = .ok (.astore_n 1, 1) := by decide +kernel
theorem d_La_law_8 : decode code 8 = .ok (.new 10, 3) := by decide +kernel
theorem d_La_law_11 : decode code 11 = .ok (.dup, 1) := by decide +kernel
theorem d_La_law_12 : decode code 12 = .ok (.invokespecial 12, 3) := by decide +kernel
theorem d_La_law_15 : decode code 15 = .ok (.astore_n 2, 1) := by decide +kernel
theorem d_La_law_16 : decode code 16 = .ok (.iconst 0, 1) := by decide +kernel
theorem d_La_law_17 : decode code 17 = .ok (.istore_n 3, 1) := by decide +kernel
theorem d_La_law_18 : decode code 18 = .ok (.iload_n 3, 1) := by decide +kernel
theorem d_La_law_19 : decode code 19 = .ok (.aload_n 0, 1) := by decide +kernel
theorem d_La_law_20 : decode code 20 = .ok (.arraylength, 1) := by decide +kernel
theorem d_La_law_21 : decode code 21 = .ok (.bipush 6, 2) := by decide +kernel
theorem d_La_law_23 : decode code 23 = .ok (.isub, 1) := by decide +kernel
theorem d_La_law_24 : decode code 24 = .ok (.if_icmp .gt 592, 3) := by decide +kernel
theorem d_La_law_27 : decode code 27 = .ok (.aload_n 0, 1) := by decide +kernel
theorem d_La_law_28 : decode code 28 = .ok (.iload_n 3, 1) := by decide +kernel
theorem d_La_law_29 : decode code 29 = .ok (.iaload, 1) := by decide +kernel
theorem d_La_law_30 : decode code 30 = .ok (.bipush 15, 2) := by decide +kernel
theorem d_La_law_32 : decode code 32 = .ok (.iand, 1) := by decide +kernel
theorem d_La_law_33 : decode code 33 = .ok (.tableswitch 577 0 12 #[67, 110, 133, 166, 229, 282, 345, 368, 391, 455, 478, 501, 554], 67) := by decide +kernel
theorem d_La_law_100 : decode code 100 = .ok (.aload_n 1, 1) := by decide +kernel
theorem d_La_law_101 : decode code 101 = .ok (.aload_n 0, 1) := by decide +kernel
theorem d_La_law_102 : decode code 102 = .ok (.iload_n 3, 1) := by decide +kernel
theorem d_La_law_103 : decode code 103 = .ok (.iconst 1, 1) := by decide +kernel
theorem d_La_law_104 : decode code 104 = .ok (.iadd, 1) := by decide +kernel
theorem d_La_law_105 : decode code 105 = .ok (.iaload, 1) := by decide +kernel
theorem d_La_law_106 : decode code 106 = .ok (.aload_n 0, 1) := by decide +kernel
theorem d_La_law_107 : decode code 107 = .ok (.iload_n 3, 1) := by decide +kernel
theorem d_La_law_108 : decode code 108 = .ok (.iconst 2, 1) := by decide +kernel
theorem d_La_law_109 : decode code 109 = .ok (.iadd, 1) := by decide +kernel
theorem d_La_law_110 : decode code 110 = .ok (.iaload, 1) := by decide +kernel
theorem d_La_law_111 : decode code 111 = .ok (.aload_n 0, 1) := by decide +kernel
theorem d_La_law_112 : decode code 112 = .ok (.iload_n 3, 1) := by decide +kernel
theorem d_La_law_113 : decode code 113 = .ok (.iconst 3, 1) := by decide +kernel
theorem d_La_law_114 : decode code 114 = .ok (.iadd, 1) := by decide +kernel
theorem d_La_law_115 : decode code 115 = .ok (.iaload, 1) := by decide +kernel
theorem d_La_law_116 : decode code 116 = .ok (.invokevirtual 13, 3) := by decide +kernel
theorem d_La_law_119 : decode code 119 = .ok (.aload_n 2, 1) := by decide +kernel
theorem d_La_law_120 : decode code 120 = .ok (.aload_n 0, 1) := by decide +kernel
theorem d_La_law_121 : decode code 121 = .ok (.iload_n 3, 1) := by decide +kernel
theorem d_La_law_122 : decode code 122 = .ok (.iconst 1, 1) := by decide +kernel
theorem d_La_law_123 : decode code 123 = .ok (.iadd, 1) := by decide +kernel
theorem d_La_law_124 : decode code 124 = .ok (.iaload, 1) := by decide +kernel
theorem d_La_law_125 : decode code 125 = .ok (.aload_n 0, 1) := by decide +kernel
theorem d_La_law_126 : decode code 126 = .ok (.iload_n 3, 1) := by decide +kernel
theorem d_La_law_127 : decode code 127 = .ok (.iconst 2, 1) := by decide +kernel
theorem d_La_law_128 : decode code 128 = .ok (.iadd, 1) := by decide +kernel
theorem d_La_law_129 : decode code 129 = .ok (.iaload, 1) := by decide +kernel
theorem d_La_law_130 : decode code 130 = .ok (.aload_n 0, 1) := by decide +kernel
theorem d_La_law_131 : decode code 131 = .ok (.iload_n 3, 1) := by decide +kernel
theorem d_La_law_132 : decode code 132 = .ok (.iconst 3, 1) := by decide +kernel
theorem d_La_law_133 : decode code 133 = .ok (.iadd, 1) := by decide +kernel
theorem d_La_law_134 : decode code 134 = .ok (.iaload, 1) := by decide +kernel
theorem d_La_law_135 : decode code 135 = .ok (.invokevirtual 17, 3) := by decide +kernel
theorem d_La_law_138 : decode code 138 = .ok (.if_icmp .eq 472, 3) := by decide +kernel
theorem d_La_law_141 : decode code 141 = .ok (.iconst 0, 1) := by decide +kernel
theorem d_La_law_142 : decode code 142 = .ok (.ireturn, 1) := by decide +kernel
theorem d_La_law_143 : decode code 143 = .ok (.aload_n 1, 1) := by decide +kernel
theorem d_La_law_144 : decode code 144 = .ok (.aload_n 0, 1) := by decide +kernel
theorem d_La_law_145 : decode code 145 = .ok (.iload_n 3, 1) := by decide +kernel
theorem d_La_law_146 : decode code 146 = .ok (.iconst 1, 1) := by decide +kernel
theorem d_La_law_147 : decode code 147 = .ok (.iadd, 1) := by decide +kernel
theorem d_La_law_148 : decode code 148 = .ok (.iaload, 1) := by decide +kernel
theorem d_La_law_149 : decode code 149 = .ok (.invokevirtual 18, 3) := by decide +kernel
theorem d_La_law_152 : decode code 152 = .ok (.aload_n 2, 1) := by decide +kernel
theorem d_La_law_153 : decode code 153 = .ok (.aload_n 0, 1) := by decide +kernel
theorem d_La_law_154 : decode code 154 = .ok (.iload_n 3, 1) := by decide +kernel
theorem d_La_law_155 : decode code 155 = .ok (.iconst 1, 1) := by decide +kernel
theorem d_La_law_156 : decode code 156 = .ok (.iadd, 1) := by decide +kernel
theorem d_La_law_157 : decode code 157 = .ok (.iaload, 1) := by decide +kernel
theorem d_La_law_158 : decode code 158 = .ok (.invokevirtual 22, 3) := by decide +kernel
theorem d_La_law_161 : decode code 161 = .ok (.if_icmp .eq 449, 3) := by decide +kernel
theorem d_La_law_164 : decode code 164 = .ok (.iconst 0, 1) := by decide +kernel
theorem d_La_law_165 : decode code 165 = .ok (.ireturn, 1) := by decide +kernel
theorem d_La_law_166 : decode code 166 = .ok (.aload_n 1, 1) := by decide +kernel
theorem d_La_law_167 : decode code 167 = .ok (.aload_n 0, 1) := by decide +kernel
theorem d_La_law_168 : decode code 168 = .ok (.iload_n 3, 1) := by decide +kernel
theorem d_La_law_169 : decode code 169 = .ok (.iconst 1, 1) := by decide +kernel
theorem d_La_law_170 : decode code 170 = .ok (.iadd, 1) := by decide +kernel
theorem d_La_law_171 : decode code 171 = .ok (.iaload, 1) := by decide +kernel
theorem d_La_law_172 : decode code 172 = .ok (.aload_n 0, 1) := by decide +kernel
theorem d_La_law_173 : decode code 173 = .ok (.iload_n 3, 1) := by decide +kernel
theorem d_La_law_174 : decode code 174 = .ok (.iconst 2, 1) := by decide +kernel
theorem d_La_law_175 : decode code 175 = .ok (.iadd, 1) := by decide +kernel
theorem d_La_law_176 : decode code 176 = .ok (.iaload, 1) := by decide +kernel
theorem d_La_law_177 : decode code 177 = .ok (.invokevirtual 23, 3) := by decide +kernel
theorem d_La_law_180 : decode code 180 = .ok (.aload_n 2, 1) := by decide +kernel
theorem d_La_law_181 : decode code 181 = .ok (.aload_n 0, 1) := by decide +kernel
theorem d_La_law_182 : decode code 182 = .ok (.iload_n 3, 1) := by decide +kernel
theorem d_La_law_183 : decode code 183 = .ok (.iconst 1, 1) := by decide +kernel
theorem d_La_law_184 : decode code 184 = .ok (.iadd, 1) := by decide +kernel
theorem d_La_law_185 : decode code 185 = .ok (.iaload, 1) := by decide +kernel
theorem d_La_law_186 : decode code 186 = .ok (.aload_n 0, 1) := by decide +kernel
theorem d_La_law_187 : decode code 187 = .ok (.iload_n 3, 1) := by decide +kernel
theorem d_La_law_188 : decode code 188 = .ok (.iconst 2, 1) := by decide +kernel
theorem d_La_law_189 : decode code 189 = .ok (.iadd, 1) := by decide +kernel
theorem d_La_law_190 : decode code 190 = .ok (.iaload, 1) := by decide +kernel
theorem d_La_law_191 : decode code 191 = .ok (.invokevirtual 27, 3) := by decide +kernel
theorem d_La_law_194 : decode code 194 = .ok (.if_icmp .eq 416, 3) := by decide +kernel
theorem d_La_law_197 : decode code 197 = .ok (.iconst 0, 1) := by decide +kernel
theorem d_La_law_198 : decode code 198 = .ok (.ireturn, 1) := by decide +kernel
theorem d_La_law_199 : decode code 199 = .ok (.aload_n 1, 1) := by decide +kernel
theorem d_La_law_200 : decode code 200 = .ok (.aload_n 0, 1) := by decide +kernel
theorem d_La_law_201 : decode code 201 = .ok (.iload_n 3, 1) := by decide +kernel
theorem d_La_law_202 : decode code 202 = .ok (.iconst 1, 1) := by decide +kernel
theorem d_La_law_203 : decode code 203 = .ok (.iadd, 1) := by decide +kernel
theorem d_La_law_204 : decode code 204 = .ok (.iaload, 1) := by decide +kernel
theorem d_La_law_205 : decode code 205 = .ok (.aload_n 0, 1) := by decide +kernel
theorem d_La_law_206 : decode code 206 = .ok (.iload_n 3, 1) := by decide +kernel
theorem d_La_law_207 : decode code 207 = .ok (.iconst 2, 1) := by decide +kernel
theorem d_La_law_208 : decode code 208 = .ok (.iadd, 1) := by decide +kernel
theorem d_La_law_209 : decode code 209 = .ok (.iaload, 1) := by decide +kernel
theorem d_La_law_210 : decode code 210 = .ok (.aload_n 0, 1) := by decide +kernel
theorem d_La_law_211 : decode code 211 = .ok (.iload_n 3, 1) := by decide +kernel
theorem d_La_law_212 : decode code 212 = .ok (.iconst 3, 1) := by decide +kernel
theorem d_La_law_213 : decode code 213 = .ok (.iadd, 1) := by decide +kernel
theorem d_La_law_214 : decode code 214 = .ok (.iaload, 1) := by decide +kernel
theorem d_La_law_215 : decode code 215 = .ok (.aload_n 0, 1) := by decide +kernel
theorem d_La_law_216 : decode code 216 = .ok (.iload_n 3, 1) := by decide +kernel
theorem d_La_law_217 : decode code 217 = .ok (.iconst 4, 1) := by decide +kernel
theorem d_La_law_218 : decode code 218 = .ok (.iadd, 1) := by decide +kernel
theorem d_La_law_219 : decode code 219 = .ok (.iaload, 1) := by decide +kernel
theorem d_La_law_220 : decode code 220 = .ok (.aload_n 0, 1) := by decide +kernel
theorem d_La_law_221 : decode code 221 = .ok (.iload_n 3, 1) := by decide +kernel
theorem d_La_law_222 : decode code 222 = .ok (.iconst 5, 1) := by decide +kernel
theorem d_La_law_223 : decode code 223 = .ok (.iadd, 1) := by decide +kernel
theorem d_La_law_224 : decode code 224 = .ok (.iaload, 1) := by decide +kernel
theorem d_La_law_225 : decode code 225 = .ok (.invokevirtual 28, 3) := by decide +kernel
theorem d_La_law_228 : decode code 228 = .ok (.aload_n 2, 1) := by decide +kernel
theorem d_La_law_229 : decode code 229 = .ok (.aload_n 0, 1) := by decide +kernel
theorem d_La_law_230 : decode code 230 = .ok (.iload_n 3, 1) := by decide +kernel
theorem d_La_law_231 : decode code 231 = .ok (.iconst 1, 1) := by decide +kernel
theorem d_La_law_232 : decode code 232 = .ok (.iadd, 1) := by decide +kernel
theorem d_La_law_233 : decode code 233 = .ok (.iaload, 1) := by decide +kernel
theorem d_La_law_234 : decode code 234 = .ok (.aload_n 0, 1) := by decide +kernel
theorem d_La_law_235 : decode code 235 = .ok (.iload_n 3, 1) := by decide +kernel
theorem d_La_law_236 : decode code 236 = .ok (.iconst 2, 1) := by decide +kernel
theorem d_La_law_237 : decode code 237 = .ok (.iadd, 1) := by decide +kernel
theorem d_La_law_238 : decode code 238 = .ok (.iaload, 1) := by decide +kernel
theorem d_La_law_239 : decode code 239 = .ok (.aload_n 0, 1) := by decide +kernel
theorem d_La_law_240 : decode code 240 = .ok (.iload_n 3, 1) := by decide +kernel
theorem d_La_law_241 : decode code 241 = .ok (.iconst 3, 1) := by decide +kernel
theorem d_La_law_242 : decode code 242 = .ok (.iadd, 1) := by decide +kernel
theorem d_La_law_243 : decode code 243 = .ok (.iaload, 1) := by decide +kernel
theorem d_La_law_244 : decode code 244 = .ok (.aload_n 0, 1) := by decide +kernel
theorem d_La_law_245 : decode code 245 = .ok (.iload_n 3, 1) := by decide +kernel
theorem d_La_law_246 : decode code 246 = .ok (.iconst 4, 1) := by decide +kernel
theorem d_La_law_247 : decode code 247 = .ok (.iadd, 1) := by decide +kernel
theorem d_La_law_248 : decode code 248 = .ok (.iaload, 1) := by decide +kernel
theorem d_La_law_249 : decode code 249 = .ok (.aload_n 0, 1) := by decide +kernel
theorem d_La_law_250 : decode code 250 = .ok (.iload_n 3, 1) := by decide +kernel
theorem d_La_law_251 : decode code 251 = .ok (.iconst 5, 1) := by decide +kernel
theorem d_La_law_252 : decode code 252 = .ok (.iadd, 1) := by decide +kernel
theorem d_La_law_253 : decode code 253 = .ok (.iaload, 1) := by decide +kernel
theorem d_La_law_254 : decode code 254 = .ok (.invokevirtual 32, 3) := by decide +kernel
theorem d_La_law_257 : decode code 257 = .ok (.if_icmp .eq 353, 3) := by decide +kernel
theorem d_La_law_260 : decode code 260 = .ok (.iconst 0, 1) := by decide +kernel
theorem d_La_law_261 : decode code 261 = .ok (.ireturn, 1) := by decide +kernel
theorem d_La_law_262 : decode code 262 = .ok (.aload_n 1, 1) := by decide +kernel
theorem d_La_law_263 : decode code 263 = .ok (.aload_n 0, 1) := by decide +kernel
theorem d_La_law_264 : decode code 264 = .ok (.iload_n 3, 1) := by decide +kernel
theorem d_La_law_265 : decode code 265 = .ok (.iconst 1, 1) := by decide +kernel
theorem d_La_law_266 : decode code 266 = .ok (.iadd, 1) := by decide +kernel
theorem d_La_law_267 : decode code 267 = .ok (.iaload, 1) := by decide +kernel
theorem d_La_law_268 : decode code 268 = .ok (.aload_n 0, 1) := by decide +kernel
theorem d_La_law_269 : decode code 269 = .ok (.iload_n 3, 1) := by decide +kernel
theorem d_La_law_270 : decode code 270 = .ok (.iconst 2, 1) := by decide +kernel
theorem d_La_law_271 : decode code 271 = .ok (.iadd, 1) := by decide +kernel
theorem d_La_law_272 : decode code 272 = .ok (.iaload, 1) := by decide +kernel
theorem d_La_law_273 : decode code 273 = .ok (.aload_n 0, 1) := by decide +kernel
theorem d_La_law_274 : decode code 274 = .ok (.iload_n 3, 1) := by decide +kernel
theorem d_La_law_275 : decode code 275 = .ok (.iconst 3, 1) := by decide +kernel
theorem d_La_law_276 : decode code 276 = .ok (.iadd, 1) := by decide +kernel
theorem d_La_law_277 : decode code 277 = .ok (.iaload, 1) := by decide +kernel
theorem d_La_law_278 : decode code 278 = .ok (.aload_n 0, 1) := by decide +kernel
theorem d_La_law_279 : decode code 279 = .ok (.iload_n 3, 1) := by decide +kernel
theorem d_La_law_280 : decode code 280 = .ok (.iconst 4, 1) := by decide +kernel
theorem d_La_law_281 : decode code 281 = .ok (.iadd, 1) := by decide +kernel
theorem d_La_law_282 : decode code 282 = .ok (.iaload, 1) := by decide +kernel
theorem d_La_law_283 : decode code 283 = .ok (.invokevirtual 33, 3) := by decide +kernel
theorem d_La_law_286 : decode code 286 = .ok (.aload_n 2, 1) := by decide +kernel
theorem d_La_law_287 : decode code 287 = .ok (.aload_n 0, 1) := by decide +kernel
theorem d_La_law_288 : decode code 288 = .ok (.iload_n 3, 1) := by decide +kernel
theorem d_La_law_289 : decode code 289 = .ok (.iconst 1, 1) := by decide +kernel
theorem d_La_law_290 : decode code 290 = .ok (.iadd, 1) := by decide +kernel
theorem d_La_law_291 : decode code 291 = .ok (.iaload, 1) := by decide +kernel
theorem d_La_law_292 : decode code 292 = .ok (.aload_n 0, 1) := by decide +kernel
theorem d_La_law_293 : decode code 293 = .ok (.iload_n 3, 1) := by decide +kernel
theorem d_La_law_294 : decode code 294 = .ok (.iconst 2, 1) := by decide +kernel
theorem d_La_law_295 : decode code 295 = .ok (.iadd, 1) := by decide +kernel
theorem d_La_law_296 : decode code 296 = .ok (.iaload, 1) := by decide +kernel
theorem d_La_law_297 : decode code 297 = .ok (.aload_n 0, 1) := by decide +kernel
theorem d_La_law_298 : decode code 298 = .ok (.iload_n 3, 1) := by decide +kernel
theorem d_La_law_299 : decode code 299 = .ok (.iconst 3, 1) := by decide +kernel
theorem d_La_law_300 : decode code 300 = .ok (.iadd, 1) := by decide +kernel
theorem d_La_law_301 : decode code 301 = .ok (.iaload, 1) := by decide +kernel
theorem d_La_law_302 : decode code 302 = .ok (.aload_n 0, 1) := by decide +kernel
theorem d_La_law_303 : decode code 303 = .ok (.iload_n 3, 1) := by decide +kernel
theorem d_La_law_304 : decode code 304 = .ok (.iconst 4, 1) := by decide +kernel
theorem d_La_law_305 : decode code 305 = .ok (.iadd, 1) := by decide +kernel
theorem d_La_law_306 : decode code 306 = .ok (.iaload, 1) := by decide +kernel
theorem d_La_law_307 : decode code 307 = .ok (.invokevirtual 37, 3) := by decide +kernel
theorem d_La_law_310 : decode code 310 = .ok (.if_icmp .eq 300, 3) := by decide +kernel
theorem d_La_law_313 : decode code 313 = .ok (.iconst 0, 1) := by decide +kernel
theorem d_La_law_314 : decode code 314 = .ok (.ireturn, 1) := by decide +kernel
theorem d_La_law_315 : decode code 315 = .ok (.aload_n 1, 1) := by decide +kernel
theorem d_La_law_316 : decode code 316 = .ok (.aload_n 0, 1) := by decide +kernel
theorem d_La_law_317 : decode code 317 = .ok (.iload_n 3, 1) := by decide +kernel
theorem d_La_law_318 : decode code 318 = .ok (.iconst 1, 1) := by decide +kernel
theorem d_La_law_319 : decode code 319 = .ok (.iadd, 1) := by decide +kernel
theorem d_La_law_320 : decode code 320 = .ok (.iaload, 1) := by decide +kernel
theorem d_La_law_321 : decode code 321 = .ok (.aload_n 0, 1) := by decide +kernel
theorem d_La_law_322 : decode code 322 = .ok (.iload_n 3, 1) := by decide +kernel
theorem d_La_law_323 : decode code 323 = .ok (.iconst 2, 1) := by decide +kernel
theorem d_La_law_324 : decode code 324 = .ok (.iadd, 1) := by decide +kernel
theorem d_La_law_325 : decode code 325 = .ok (.iaload, 1) := by decide +kernel
theorem d_La_law_326 : decode code 326 = .ok (.aload_n 0, 1) := by decide +kernel
theorem d_La_law_327 : decode code 327 = .ok (.iload_n 3, 1) := by decide +kernel
theorem d_La_law_328 : decode code 328 = .ok (.iconst 3, 1) := by decide +kernel
theorem d_La_law_329 : decode code 329 = .ok (.iadd, 1) := by decide +kernel
theorem d_La_law_330 : decode code 330 = .ok (.iaload, 1) := by decide +kernel
theorem d_La_law_331 : decode code 331 = .ok (.aload_n 0, 1) := by decide +kernel
theorem d_La_law_332 : decode code 332 = .ok (.iload_n 3, 1) := by decide +kernel
theorem d_La_law_333 : decode code 333 = .ok (.iconst 4, 1) := by decide +kernel
theorem d_La_law_334 : decode code 334 = .ok (.iadd, 1) := by decide +kernel
theorem d_La_law_335 : decode code 335 = .ok (.iaload, 1) := by decide +kernel
theorem d_La_law_336 : decode code 336 = .ok (.aload_n 0, 1) := by decide +kernel
theorem d_La_law_337 : decode code 337 = .ok (.iload_n 3, 1) := by decide +kernel
theorem d_La_law_338 : decode code 338 = .ok (.iconst 5, 1) := by decide +kernel
theorem d_La_law_339 : decode code 339 = .ok (.iadd, 1) := by decide +kernel
theorem d_La_law_340 : decode code 340 = .ok (.iaload, 1) := by decide +kernel
theorem d_La_law_341 : decode code 341 = .ok (.invokevirtual 38, 3) := by decide +kernel
theorem d_La_law_344 : decode code 344 = .ok (.aload_n 2, 1) := by decide +kernel
theorem d_La_law_345 : decode code 345 = .ok (.aload_n 0, 1) := by decide +kernel
theorem d_La_law_346 : decode code 346 = .ok (.iload_n 3, 1) := by decide +kernel
theorem d_La_law_347 : decode code 347 = .ok (.iconst 1, 1) := by decide +kernel
theorem d_La_law_348 : decode code 348 = .ok (.iadd, 1) := by decide +kernel
theorem d_La_law_349 : decode code 349 = .ok (.iaload, 1) := by decide +kernel
theorem d_La_law_350 : decode code 350 = .ok (.aload_n 0, 1) := by decide +kernel
theorem d_La_law_351 : decode code 351 = .ok (.iload_n 3, 1) := by decide +kernel
theorem d_La_law_352 : decode code 352 = .ok (.iconst 2, 1) := by decide +kernel
theorem d_La_law_353 : decode code 353 = .ok (.iadd, 1) := by decide +kernel
theorem d_La_law_354 : decode code 354 = .ok (.iaload, 1) := by decide +kernel
theorem d_La_law_355 : decode code 355 = .ok (.aload_n 0, 1) := by decide +kernel
theorem d_La_law_356 : decode code 356 = .ok (.iload_n 3, 1) := by decide +kernel
theorem d_La_law_357 : decode code 357 = .ok (.iconst 3, 1) := by decide +kernel
theorem d_La_law_358 : decode code 358 = .ok (.iadd, 1) := by decide +kernel
theorem d_La_law_359 : decode code 359 = .ok (.iaload, 1) := by decide +kernel
theorem d_La_law_360 : decode code 360 = .ok (.aload_n 0, 1) := by decide +kernel
theorem d_La_law_361 : decode code 361 = .ok (.iload_n 3, 1) := by decide +kernel
theorem d_La_law_362 : decode code 362 = .ok (.iconst 4, 1) := by decide +kernel
theorem d_La_law_363 : decode code 363 = .ok (.iadd, 1) := by decide +kernel
theorem d_La_law_364 : decode code 364 = .ok (.iaload, 1) := by decide +kernel
theorem d_La_law_365 : decode code 365 = .ok (.aload_n 0, 1) := by decide +kernel
theorem d_La_law_366 : decode code 366 = .ok (.iload_n 3, 1) := by decide +kernel
theorem d_La_law_367 : decode code 367 = .ok (.iconst 5, 1) := by decide +kernel
theorem d_La_law_368 : decode code 368 = .ok (.iadd, 1) := by decide +kernel
theorem d_La_law_369 : decode code 369 = .ok (.iaload, 1) := by decide +kernel
theorem d_La_law_370 : decode code 370 = .ok (.invokevirtual 41, 3) := by decide +kernel
theorem d_La_law_373 : decode code 373 = .ok (.if_icmp .eq 237, 3) := by decide +kernel
theorem d_La_law_376 : decode code 376 = .ok (.iconst 0, 1) := by decide +kernel
theorem d_La_law_377 : decode code 377 = .ok (.ireturn, 1) := by decide +kernel
theorem d_La_law_378 : decode code 378 = .ok (.aload_n 1, 1) := by decide +kernel
theorem d_La_law_379 : decode code 379 = .ok (.aload_n 0, 1) := by decide +kernel
theorem d_La_law_380 : decode code 380 = .ok (.iload_n 3, 1) := by decide +kernel
theorem d_La_law_381 : decode code 381 = .ok (.iconst 1, 1) := by decide +kernel
theorem d_La_law_382 : decode code 382 = .ok (.iadd, 1) := by decide +kernel
theorem d_La_law_383 : decode code 383 = .ok (.iaload, 1) := by decide +kernel
theorem d_La_law_384 : decode code 384 = .ok (.invokevirtual 42, 3) := by decide +kernel
theorem d_La_law_387 : decode code 387 = .ok (.aload_n 2, 1) := by decide +kernel
theorem d_La_law_388 : decode code 388 = .ok (.aload_n 0, 1) := by decide +kernel
theorem d_La_law_389 : decode code 389 = .ok (.iload_n 3, 1) := by decide +kernel
theorem d_La_law_390 : decode code 390 = .ok (.iconst 1, 1) := by decide +kernel
theorem d_La_law_391 : decode code 391 = .ok (.iadd, 1) := by decide +kernel
theorem d_La_law_392 : decode code 392 = .ok (.iaload, 1) := by decide +kernel
theorem d_La_law_393 : decode code 393 = .ok (.invokevirtual 46, 3) := by decide +kernel
theorem d_La_law_396 : decode code 396 = .ok (.if_icmp .eq 214, 3) := by decide +kernel
theorem d_La_law_399 : decode code 399 = .ok (.iconst 0, 1) := by decide +kernel
theorem d_La_law_400 : decode code 400 = .ok (.ireturn, 1) := by decide +kernel
theorem d_La_law_401 : decode code 401 = .ok (.aload_n 1, 1) := by decide +kernel
theorem d_La_law_402 : decode code 402 = .ok (.aload_n 0, 1) := by decide +kernel
theorem d_La_law_403 : decode code 403 = .ok (.iload_n 3, 1) := by decide +kernel
theorem d_La_law_404 : decode code 404 = .ok (.iconst 1, 1) := by decide +kernel
theorem d_La_law_405 : decode code 405 = .ok (.iadd, 1) := by decide +kernel
theorem d_La_law_406 : decode code 406 = .ok (.iaload, 1) := by decide +kernel
theorem d_La_law_407 : decode code 407 = .ok (.invokevirtual 47, 3) := by decide +kernel
theorem d_La_law_410 : decode code 410 = .ok (.aload_n 2, 1) := by decide +kernel
theorem d_La_law_411 : decode code 411 = .ok (.aload_n 0, 1) := by decide +kernel
theorem d_La_law_412 : decode code 412 = .ok (.iload_n 3, 1) := by decide +kernel
theorem d_La_law_413 : decode code 413 = .ok (.iconst 1, 1) := by decide +kernel
theorem d_La_law_414 : decode code 414 = .ok (.iadd, 1) := by decide +kernel
theorem d_La_law_415 : decode code 415 = .ok (.iaload, 1) := by decide +kernel
theorem d_La_law_416 : decode code 416 = .ok (.invokevirtual 50, 3) := by decide +kernel
theorem d_La_law_419 : decode code 419 = .ok (.if_icmp .eq 191, 3) := by decide +kernel
theorem d_La_law_422 : decode code 422 = .ok (.iconst 0, 1) := by decide +kernel
theorem d_La_law_423 : decode code 423 = .ok (.ireturn, 1) := by decide +kernel
theorem d_La_law_424 : decode code 424 = .ok (.aload_n 1, 1) := by decide +kernel
theorem d_La_law_425 : decode code 425 = .ok (.aload_n 0, 1) := by decide +kernel
theorem d_La_law_426 : decode code 426 = .ok (.iload_n 3, 1) := by decide +kernel
theorem d_La_law_427 : decode code 427 = .ok (.iconst 1, 1) := by decide +kernel
theorem d_La_law_428 : decode code 428 = .ok (.iadd, 1) := by decide +kernel
theorem d_La_law_429 : decode code 429 = .ok (.iaload, 1) := by decide +kernel
theorem d_La_law_430 : decode code 430 = .ok (.aload_n 0, 1) := by decide +kernel
theorem d_La_law_431 : decode code 431 = .ok (.iload_n 3, 1) := by decide +kernel
theorem d_La_law_432 : decode code 432 = .ok (.iconst 2, 1) := by decide +kernel
theorem d_La_law_433 : decode code 433 = .ok (.iadd, 1) := by decide +kernel
theorem d_La_law_434 : decode code 434 = .ok (.iaload, 1) := by decide +kernel
theorem d_La_law_435 : decode code 435 = .ok (.aload_n 0, 1) := by decide +kernel
theorem d_La_law_436 : decode code 436 = .ok (.iload_n 3, 1) := by decide +kernel
theorem d_La_law_437 : decode code 437 = .ok (.iconst 3, 1) := by decide +kernel
theorem d_La_law_438 : decode code 438 = .ok (.iadd, 1) := by decide +kernel
theorem d_La_law_439 : decode code 439 = .ok (.iaload, 1) := by decide +kernel
theorem d_La_law_440 : decode code 440 = .ok (.aload_n 0, 1) := by decide +kernel
theorem d_La_law_441 : decode code 441 = .ok (.iload_n 3, 1) := by decide +kernel
theorem d_La_law_442 : decode code 442 = .ok (.iconst 4, 1) := by decide +kernel
theorem d_La_law_443 : decode code 443 = .ok (.iadd, 1) := by decide +kernel
theorem d_La_law_444 : decode code 444 = .ok (.iaload, 1) := by decide +kernel
theorem d_La_law_445 : decode code 445 = .ok (.aload_n 0, 1) := by decide +kernel
theorem d_La_law_446 : decode code 446 = .ok (.iload_n 3, 1) := by decide +kernel
theorem d_La_law_447 : decode code 447 = .ok (.iconst 5, 1) := by decide +kernel
theorem d_La_law_448 : decode code 448 = .ok (.iadd, 1) := by decide +kernel
theorem d_La_law_449 : decode code 449 = .ok (.iaload, 1) := by decide +kernel
theorem d_La_law_450 : decode code 450 = .ok (.invokevirtual 51, 3) := by decide +kernel
theorem d_La_law_453 : decode code 453 = .ok (.aload_n 2, 1) := by decide +kernel
theorem d_La_law_454 : decode code 454 = .ok (.aload_n 0, 1) := by decide +kernel
theorem d_La_law_455 : decode code 455 = .ok (.iload_n 3, 1) := by decide +kernel
theorem d_La_law_456 : decode code 456 = .ok (.iconst 1, 1) := by decide +kernel
theorem d_La_law_457 : decode code 457 = .ok (.iadd, 1) := by decide +kernel
theorem d_La_law_458 : decode code 458 = .ok (.iaload, 1) := by decide +kernel
theorem d_La_law_459 : decode code 459 = .ok (.aload_n 0, 1) := by decide +kernel
theorem d_La_law_460 : decode code 460 = .ok (.iload_n 3, 1) := by decide +kernel
theorem d_La_law_461 : decode code 461 = .ok (.iconst 2, 1) := by decide +kernel
theorem d_La_law_462 : decode code 462 = .ok (.iadd, 1) := by decide +kernel
theorem d_La_law_463 : decode code 463 = .ok (.iaload, 1) := by decide +kernel
theorem d_La_law_464 : decode code 464 = .ok (.aload_n 0, 1) := by decide +kernel
theorem d_La_law_465 : decode code 465 = .ok (.iload_n 3, 1) := by decide +kernel
theorem d_La_law_466 : decode code 466 = .ok (.iconst 3, 1) := by decide +kernel
theorem d_La_law_467 : decode code 467 = .ok (.iadd, 1) := by decide +kernel
theorem d_La_law_468 : decode code 468 = .ok (.iaload, 1) := by decide +kernel
theorem d_La_law_469 : decode code 469 = .ok (.aload_n 0, 1) := by decide +kernel
theorem d_La_law_470 : decode code 470 = .ok (.iload_n 3, 1) := by decide +kernel
theorem d_La_law_471 : decode code 471 = .ok (.iconst 4, 1) := by decide +kernel
theorem d_La_law_472 : decode code 472 = .ok (.iadd, 1) := by decide +kernel
theorem d_La_law_473 : decode code 473 = .ok (.iaload, 1) := by decide +kernel
theorem d_La_law_474 : decode code 474 = .ok (.aload_n 0, 1) := by decide +kernel
theorem d_La_law_475 : decode code 475 = .ok (.iload_n 3, 1) := by decide +kernel
theorem d_La_law_476 : decode code 476 = .ok (.iconst 5, 1) := by decide +kernel
theorem d_La_law_477 : decode code 477 = .ok (.iadd, 1) := by decide +kernel
theorem d_La_law_478 : decode code 478 = .ok (.iaload, 1) := by decide +kernel
theorem d_La_law_479 : decode code 479 = .ok (.invokevirtual 55, 3) := by decide +kernel
theorem d_La_law_482 : decode code 482 = .ok (.lcmp, 1) := by decide +kernel
theorem d_La_law_483 : decode code 483 = .ok (.ifCond .eq 127, 3) := by decide +kernel
theorem d_La_law_486 : decode code 486 = .ok (.iconst 0, 1) := by decide +kernel
theorem d_La_law_487 : decode code 487 = .ok (.ireturn, 1) := by decide +kernel
theorem d_La_law_488 : decode code 488 = .ok (.aload_n 1, 1) := by decide +kernel
theorem d_La_law_489 : decode code 489 = .ok (.aload_n 0, 1) := by decide +kernel
theorem d_La_law_490 : decode code 490 = .ok (.iload_n 3, 1) := by decide +kernel
theorem d_La_law_491 : decode code 491 = .ok (.iconst 1, 1) := by decide +kernel
theorem d_La_law_492 : decode code 492 = .ok (.iadd, 1) := by decide +kernel
theorem d_La_law_493 : decode code 493 = .ok (.iaload, 1) := by decide +kernel
theorem d_La_law_494 : decode code 494 = .ok (.invokevirtual 56, 3) := by decide +kernel
theorem d_La_law_497 : decode code 497 = .ok (.aload_n 2, 1) := by decide +kernel
theorem d_La_law_498 : decode code 498 = .ok (.aload_n 0, 1) := by decide +kernel
theorem d_La_law_499 : decode code 499 = .ok (.iload_n 3, 1) := by decide +kernel
theorem d_La_law_500 : decode code 500 = .ok (.iconst 1, 1) := by decide +kernel
theorem d_La_law_501 : decode code 501 = .ok (.iadd, 1) := by decide +kernel
theorem d_La_law_502 : decode code 502 = .ok (.iaload, 1) := by decide +kernel
theorem d_La_law_503 : decode code 503 = .ok (.invokevirtual 59, 3) := by decide +kernel
theorem d_La_law_506 : decode code 506 = .ok (.if_icmp .eq 104, 3) := by decide +kernel
theorem d_La_law_509 : decode code 509 = .ok (.iconst 0, 1) := by decide +kernel
theorem d_La_law_510 : decode code 510 = .ok (.ireturn, 1) := by decide +kernel
theorem d_La_law_511 : decode code 511 = .ok (.aload_n 1, 1) := by decide +kernel
theorem d_La_law_512 : decode code 512 = .ok (.aload_n 0, 1) := by decide +kernel
theorem d_La_law_513 : decode code 513 = .ok (.iload_n 3, 1) := by decide +kernel
theorem d_La_law_514 : decode code 514 = .ok (.iconst 1, 1) := by decide +kernel
theorem d_La_law_515 : decode code 515 = .ok (.iadd, 1) := by decide +kernel
theorem d_La_law_516 : decode code 516 = .ok (.iaload, 1) := by decide +kernel
theorem d_La_law_517 : decode code 517 = .ok (.invokevirtual 60, 3) := by decide +kernel
theorem d_La_law_520 : decode code 520 = .ok (.aload_n 2, 1) := by decide +kernel
theorem d_La_law_521 : decode code 521 = .ok (.aload_n 0, 1) := by decide +kernel
theorem d_La_law_522 : decode code 522 = .ok (.iload_n 3, 1) := by decide +kernel
theorem d_La_law_523 : decode code 523 = .ok (.iconst 1, 1) := by decide +kernel
theorem d_La_law_524 : decode code 524 = .ok (.iadd, 1) := by decide +kernel
theorem d_La_law_525 : decode code 525 = .ok (.iaload, 1) := by decide +kernel
theorem d_La_law_526 : decode code 526 = .ok (.invokevirtual 63, 3) := by decide +kernel
theorem d_La_law_529 : decode code 529 = .ok (.if_icmp .eq 81, 3) := by decide +kernel
theorem d_La_law_532 : decode code 532 = .ok (.iconst 0, 1) := by decide +kernel
theorem d_La_law_533 : decode code 533 = .ok (.ireturn, 1) := by decide +kernel
theorem d_La_law_534 : decode code 534 = .ok (.aload_n 1, 1) := by decide +kernel
theorem d_La_law_535 : decode code 535 = .ok (.aload_n 0, 1) := by decide +kernel
theorem d_La_law_536 : decode code 536 = .ok (.iload_n 3, 1) := by decide +kernel
theorem d_La_law_537 : decode code 537 = .ok (.iconst 1, 1) := by decide +kernel
theorem d_La_law_538 : decode code 538 = .ok (.iadd, 1) := by decide +kernel
theorem d_La_law_539 : decode code 539 = .ok (.iaload, 1) := by decide +kernel
theorem d_La_law_540 : decode code 540 = .ok (.aload_n 0, 1) := by decide +kernel
theorem d_La_law_541 : decode code 541 = .ok (.iload_n 3, 1) := by decide +kernel
theorem d_La_law_542 : decode code 542 = .ok (.iconst 2, 1) := by decide +kernel
theorem d_La_law_543 : decode code 543 = .ok (.iadd, 1) := by decide +kernel
theorem d_La_law_544 : decode code 544 = .ok (.iaload, 1) := by decide +kernel
theorem d_La_law_545 : decode code 545 = .ok (.aload_n 0, 1) := by decide +kernel
theorem d_La_law_546 : decode code 546 = .ok (.iload_n 3, 1) := by decide +kernel
theorem d_La_law_547 : decode code 547 = .ok (.iconst 3, 1) := by decide +kernel
theorem d_La_law_548 : decode code 548 = .ok (.iadd, 1) := by decide +kernel
theorem d_La_law_549 : decode code 549 = .ok (.iaload, 1) := by decide +kernel
theorem d_La_law_550 : decode code 550 = .ok (.aload_n 0, 1) := by decide +kernel
theorem d_La_law_551 : decode code 551 = .ok (.iload_n 3, 1) := by decide +kernel
theorem d_La_law_552 : decode code 552 = .ok (.iconst 4, 1) := by decide +kernel
theorem d_La_law_553 : decode code 553 = .ok (.iadd, 1) := by decide +kernel
theorem d_La_law_554 : decode code 554 = .ok (.iaload, 1) := by decide +kernel
theorem d_La_law_555 : decode code 555 = .ok (.invokevirtual 64, 3) := by decide +kernel
theorem d_La_law_558 : decode code 558 = .ok (.aload_n 2, 1) := by decide +kernel
theorem d_La_law_559 : decode code 559 = .ok (.aload_n 0, 1) := by decide +kernel
theorem d_La_law_560 : decode code 560 = .ok (.iload_n 3, 1) := by decide +kernel
theorem d_La_law_561 : decode code 561 = .ok (.iconst 1, 1) := by decide +kernel
theorem d_La_law_562 : decode code 562 = .ok (.iadd, 1) := by decide +kernel
theorem d_La_law_563 : decode code 563 = .ok (.iaload, 1) := by decide +kernel
theorem d_La_law_564 : decode code 564 = .ok (.aload_n 0, 1) := by decide +kernel
theorem d_La_law_565 : decode code 565 = .ok (.iload_n 3, 1) := by decide +kernel
theorem d_La_law_566 : decode code 566 = .ok (.iconst 2, 1) := by decide +kernel
theorem d_La_law_567 : decode code 567 = .ok (.iadd, 1) := by decide +kernel
theorem d_La_law_568 : decode code 568 = .ok (.iaload, 1) := by decide +kernel
theorem d_La_law_569 : decode code 569 = .ok (.aload_n 0, 1) := by decide +kernel
theorem d_La_law_570 : decode code 570 = .ok (.iload_n 3, 1) := by decide +kernel
theorem d_La_law_571 : decode code 571 = .ok (.iconst 3, 1) := by decide +kernel
theorem d_La_law_572 : decode code 572 = .ok (.iadd, 1) := by decide +kernel
theorem d_La_law_573 : decode code 573 = .ok (.iaload, 1) := by decide +kernel
theorem d_La_law_574 : decode code 574 = .ok (.aload_n 0, 1) := by decide +kernel
theorem d_La_law_575 : decode code 575 = .ok (.iload_n 3, 1) := by decide +kernel
theorem d_La_law_576 : decode code 576 = .ok (.iconst 4, 1) := by decide +kernel
theorem d_La_law_577 : decode code 577 = .ok (.iadd, 1) := by decide +kernel
theorem d_La_law_578 : decode code 578 = .ok (.iaload, 1) := by decide +kernel
theorem d_La_law_579 : decode code 579 = .ok (.invokevirtual 68, 3) := by decide +kernel
theorem d_La_law_582 : decode code 582 = .ok (.if_icmp .eq 28, 3) := by decide +kernel
theorem d_La_law_585 : decode code 585 = .ok (.iconst 0, 1) := by decide +kernel
theorem d_La_law_586 : decode code 586 = .ok (.ireturn, 1) := by decide +kernel
theorem d_La_law_587 : decode code 587 = .ok (.aload_n 1, 1) := by decide +kernel
theorem d_La_law_588 : decode code 588 = .ok (.aload_n 0, 1) := by decide +kernel
theorem d_La_law_589 : decode code 589 = .ok (.iload_n 3, 1) := by decide +kernel
theorem d_La_law_590 : decode code 590 = .ok (.iconst 1, 1) := by decide +kernel
theorem d_La_law_591 : decode code 591 = .ok (.iadd, 1) := by decide +kernel
theorem d_La_law_592 : decode code 592 = .ok (.iaload, 1) := by decide +kernel
theorem d_La_law_593 : decode code 593 = .ok (.invokevirtual 69, 3) := by decide +kernel
theorem d_La_law_596 : decode code 596 = .ok (.aload_n 2, 1) := by decide +kernel
theorem d_La_law_597 : decode code 597 = .ok (.aload_n 0, 1) := by decide +kernel
theorem d_La_law_598 : decode code 598 = .ok (.iload_n 3, 1) := by decide +kernel
theorem d_La_law_599 : decode code 599 = .ok (.iconst 1, 1) := by decide +kernel
theorem d_La_law_600 : decode code 600 = .ok (.iadd, 1) := by decide +kernel
theorem d_La_law_601 : decode code 601 = .ok (.iaload, 1) := by decide +kernel
theorem d_La_law_602 : decode code 602 = .ok (.invokevirtual 72, 3) := by decide +kernel
theorem d_La_law_605 : decode code 605 = .ok (.if_icmp .eq 5, 3) := by decide +kernel
theorem d_La_law_608 : decode code 608 = .ok (.iconst 0, 1) := by decide +kernel
theorem d_La_law_609 : decode code 609 = .ok (.ireturn, 1) := by decide +kernel
theorem d_La_law_610 : decode code 610 = .ok (.iinc 3 6, 3) := by decide +kernel
theorem d_La_law_613 : decode code 613 = .ok (.goto (-595), 3) := by decide +kernel
theorem d_La_law_616 : decode code 616 = .ok (.iconst 1, 1) := by decide +kernel
theorem d_La_law_617 : decode code 617 = .ok (.ireturn, 1) := by decide +kernel
