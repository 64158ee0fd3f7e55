theorem dX4_init_160 : decode cX4_init 160 = .ok (.bipush 26, 2) := by decide +kernel
theorem dX4_init_162 : decode cX4_init 162 = .ok (.bipush 100, 2) := by decide +kernel
theorem dX4_init_164 : decode cX4_init 164 = .ok (.iastore, 1) := by decide +kernel
theorem dX4_init_165 : decode cX4_init 165 = .ok (.dup, 1) := by decide +kernel
theorem dX4_init_166 : decode cX4_init 166 = .ok (.bipush 27, 2) := by decide +kernel
theorem dX4_init_168 : decode cX4_init 168 = .ok (.bipush 100, 2) := by decide +kernel
theorem dX4_init_170 : decode cX4_init 170 = .ok (.iastore, 1) := by decide +kernel
theorem dX4_init_171 : decode cX4_init 171 = .ok (.dup, 1) := by decide +kernel
theorem dX4_init_172 : decode cX4_init 172 = .ok (.bipush 28, 2) := by decide +kernel
theorem dX4_init_174 : decode cX4_init 174 = .ok (.bipush 100, 2) := by decide +kernel
theorem dX4_init_176 : decode cX4_init 176 = .ok (.iastore, 1) := by decide +kernel
theorem dX4_init_177 : decode cX4_init 177 = .ok (.dup, 1) := by decide +kernel
theorem dX4_init_178 : decode cX4_init 178 = .ok (.bipush 29, 2) := by decide +kernel
theorem dX4_init_180 : decode cX4_init 180 = .ok (.bipush 100, 2) := by decide +kernel
theorem dX4_init_182 : decode cX4_init 182 = .ok (.iastore, 1) := by decide +kernel
theorem dX4_init_183 : decode cX4_init 183 = .ok (.dup, 1) := by decide +kernel
theorem dX4_init_184 : decode cX4_init 184 = .ok (.bipush 30, 2) := by decide +kernel
theorem dX4_init_186 : decode cX4_init 186 = .ok (.bipush 100, 2) := by decide +kernel
theorem dX4_init_188 : decode cX4_init 188 = .ok (.iastore, 1) := by decide +kernel
theorem dX4_init_189 : decode cX4_init 189 = .ok (.dup, 1) := by decide +kernel
theorem dX4_init_190 : decode cX4_init 190 = .ok (.bipush 31, 2) := by decide +kernel
theorem dX4_init_192 : decode cX4_init 192 = .ok (.bipush 100, 2) := by decide +kernel
theorem dX4_init_194 : decode cX4_init 194 = .ok (.iastore, 1) := by decide +kernel
theorem dX4_init_195 : decode cX4_init 195 = .ok (.dup, 1) := by decide +kernel
theorem dX4_init_196 : decode cX4_init 196 = .ok (.bipush 32, 2) := by decide +kernel
theorem dX4_init_198 : decode cX4_init 198 = .ok (.bipush 100, 2) := by decide +kernel
theorem dX4_init_200 : decode cX4_init 200 = .ok (.iastore, 1) := by decide +kernel
theorem dX4_init_201 : decode cX4_init 201 = .ok (.dup, 1) := by decide +kernel
theorem dX4_init_202 : decode cX4_init 202 = .ok (.bipush 33, 2) := by decide +kernel
theorem dX4_init_204 : decode cX4_init 204 = .ok (.bipush 100, 2) := by decide +kernel
theorem dX4_init_206 : decode cX4_init 206 = .ok (.iastore, 1) := by decide +kernel
theorem dX4_init_207 : decode cX4_init 207 = .ok (.dup, 1) := by decide +kernel
theorem dX4_init_208 : decode cX4_init 208 = .ok (.bipush 34, 2) := by decide +kernel
theorem dX4_init_210 : decode cX4_init 210 = .ok (.bipush 100, 2) := by decide +kernel
theorem dX4_init_212 : decode cX4_init 212 = .ok (.iastore, 1) := by decide +kernel
theorem dX4_init_213 : decode cX4_init 213 = .ok (.dup, 1) := by decide +kernel
theorem dX4_init_214 : decode cX4_init 214 = .ok (.bipush 35, 2) := by decide +kernel
theorem dX4_init_216 : decode cX4_init 216 = .ok (.bipush 100, 2) := by decide +kernel
theorem dX4_init_218 : decode cX4_init 218 = .ok (.iastore, 1) := by decide +kernel
theorem dX4_init_219 : decode cX4_init 219 = .ok (.dup, 1) := by decide +kernel
theorem dX4_init_220 : decode cX4_init 220 = .ok (.bipush 36, 2) := by decide +kernel
theorem dX4_init_222 : decode cX4_init 222 = .ok (.bipush 100, 2) := by decide +kernel
theorem dX4_init_224 : decode cX4_init 224 = .ok (.iastore, 1) := by decide +kernel
theorem dX4_init_225 : decode cX4_init 225 = .ok (.dup, 1) := by decide +kernel
theorem dX4_init_226 : decode cX4_init 226 = .ok (.bipush 37, 2) := by decide +kernel
theorem dX4_init_228 : decode cX4_init 228 = .ok (.bipush 100, 2) := by decide +kernel
theorem dX4_init_230 : decode cX4_init 230 = .ok (.iastore, 1) := by decide +kernel
theorem dX4_init_231 : decode cX4_init 231 = .ok (.dup, 1) := by decide +kernel
theorem dX4_init_232 : decode cX4_init 232 = .ok (.bipush 38, 2) := by decide +kernel
theorem dX4_init_234 : decode cX4_init 234 = .ok (.bipush 100, 2) := by decide +kernel
theorem dX4_init_236 : decode cX4_init 236 = .ok (.iastore, 1) := by decide +kernel
theorem dX4_init_237 : decode cX4_init 237 = .ok (.dup, 1) := by decide +kernel
theorem dX4_init_238 : decode cX4_init 238 = .ok (.bipush 39, 2) := by decide +kernel
theorem dX4_init_240 : decode cX4_init 240 = .ok (.bipush 100, 2) := by decide +kernel
theorem dX4_init_242 : decode cX4_init 242 = .ok (.iastore, 1) := by decide +kernel
theorem dX4_init_243 : decode cX4_init 243 = .ok (.dup, 1) := by decide +kernel
theorem dX4_init_244 : decode cX4_init 244 = .ok (.bipush 40, 2) := by decide +kernel
theorem dX4_init_246 : decode cX4_init 246 = .ok (.bipush 100, 2) := by decide +kernel
theorem dX4_init_248 : decode cX4_init 248 = .ok (.iastore, 1) := by decide +kernel
theorem dX4_init_249 : decode cX4_init 249 = .ok (.dup, 1) := by decide +kernel
theorem dX4_init_250 : decode cX4_init 250 = .ok (.bipush 41, 2) := by decide +kernel
theorem dX4_init_252 : decode cX4_init 252 = .ok (.bipush 100, 2) := by decide +kernel
theorem dX4_init_254 : decode cX4_init 254 = .ok (.iastore, 1) := by decide +kernel
theorem dX4_init_255 : decode cX4_init 255 = .ok (.dup, 1) := by decide +kernel
theorem dX4_init_256 : decode cX4_init 256 = .ok (.bipush 42, 2) := by decide +kernel
theorem dX4_init_258 : decode cX4_init 258 = .ok (.bipush 100, 2) := by decide +kernel
theorem dX4_init_260 : decode cX4_init 260 = .ok (.iastore, 1) := by decide +kernel
theorem dX4_init_261 : decode cX4_init 261 = .ok (.dup, 1) := by decide +kernel
theorem dX4_init_262 : decode cX4_init 262 = .ok (.bipush 43, 2) := by decide +kernel
theorem dX4_init_264 : decode cX4_init 264 = .ok (.bipush 100, 2) := by decide +kernel
theorem dX4_init_266 : decode cX4_init 266 = .ok (.iastore, 1) := by decide +kernel
theorem dX4_init_267 : decode cX4_init 267 = .ok (.dup, 1) := by decide +kernel
theorem dX4_init_268 : decode cX4_init 268 = .ok (.bipush 44, 2) := by decide +kernel
theorem dX4_init_270 : decode cX4_init 270 = .ok (.bipush 100, 2) := by decide +kernel
theorem dX4_init_272 : decode cX4_init 272 = .ok (.iastore, 1) := by decide +kernel
theorem dX4_init_273 : decode cX4_init 273 = .ok (.dup, 1) := by decide +kernel
theorem dX4_init_274 : decode cX4_init 274 = .ok (.bipush 45, 2) := by decide +kernel
theorem dX4_init_276 : decode cX4_init 276 = .ok (.bipush 100, 2) := by decide +kernel
theorem dX4_init_278 : decode cX4_init 278 = .ok (.iastore, 1) := by decide +kernel
theorem dX4_init_279 : decode cX4_init 279 = .ok (.dup, 1) := by decide +kernel
theorem dX4_init_280 : decode cX4_init 280 = .ok (.bipush 46, 2) := by decide +kernel
theorem dX4_init_282 : decode cX4_init 282 = .ok (.bipush 100, 2) := by decide +kernel
theorem dX4_init_284 : decode cX4_init 284 = .ok (.iastore, 1) := by decide +kernel
theorem dX4_init_285 : decode cX4_init 285 = .ok (.dup, 1) := by decide +kernel
theorem dX4_init_286 : decode cX4_init 286 = .ok (.bipush 47, 2) := by decide +kernel
theorem dX4_init_288 : decode cX4_init 288 = .ok (.bipush 100, 2) := by decide +kernel
theorem dX4_init_290 : decode cX4_init 290 = .ok (.iastore, 1) := by decide +kernel
theorem dX4_init_291 : decode cX4_init 291 = .ok (.dup, 1) := by decide +kernel
theorem dX4_init_292 : decode cX4_init 292 = .ok (.bipush 48, 2) := by decide +kernel
theorem dX4_init_294 : decode cX4_init 294 = .ok (.bipush 100, 2) := by decide +kernel
theorem dX4_init_296 : decode cX4_init 296 = .ok (.iastore, 1) := by decide +kernel
theorem dX4_init_297 : decode cX4_init 297 = .ok (.dup, 1) := by decide +kernel
theorem dX4_init_298 : decode cX4_init 298 = .ok (.bipush 49, 2) := by decide +kernel
theorem dX4_init_300 : decode cX4_init 300 = .ok (.bipush 100, 2) := by decide +kernel
theorem dX4_init_302 : decode cX4_init 302 = .ok (.iastore, 1) := by decide +kernel
theorem dX4_init_303 : decode cX4_init 303 = .ok (.putfield 7, 3) := by decide +kernel
theorem dX4_init_306 : decode cX4_init 306 = .ok (.aload_n 0, 1) := by decide +kernel
theorem dX4_init_307 : decode cX4_init 307 = .ok (.bipush 50, 2) := by decide +kernel
theorem dX4_init_309 : decode cX4_init 309 = .ok (.newarray .int, 2) := by decide +kernel
theorem dX4_init_311 : decode cX4_init 311 = .ok (.dup, 1) := by decide +kernel
theorem dX4_init_312 : decode cX4_init 312 = .ok (.iconst 0, 1) := by decide +kernel
theorem dX4_init_313 : decode cX4_init 313 = .ok (.sipush 180, 3) := by decide +kernel
theorem dX4_init_316 : decode cX4_init 316 = .ok (.iastore, 1) := by decide +kernel
theorem dX4_init_317 : decode cX4_init 317 = .ok (.dup, 1) := by decide +kernel
theorem dX4_init_318 : decode cX4_init 318 = .ok (.iconst 1, 1) := by decide +kernel
theorem dX4_init_319 : decode cX4_init 319 = .ok (.sipush 180, 3) := by decide +kernel
theorem dX4_init_322 : decode cX4_init 322 = .ok (.iastore, 1) := by decide +kernel
theorem dX4_init_323 : decode cX4_init 323 = .ok (.dup, 1) := by decide +kernel
theorem dX4_init_324 : decode cX4_init 324 = .ok (.iconst 2, 1) := by decide +kernel
theorem dX4_init_325 : decode cX4_init 325 = .ok (.sipush 180, 3) := by decide +kernel
