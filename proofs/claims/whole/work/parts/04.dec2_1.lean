theorem dX2_init_176 : decode cX2_init 176 = .ok (.iastore, 1) := by decide +kernel
theorem dX2_init_177 : decode cX2_init 177 = .ok (.dup, 1) := by decide +kernel
theorem dX2_init_178 : decode cX2_init 178 = .ok (.bipush 29, 2) := by decide +kernel
theorem dX2_init_180 : decode cX2_init 180 = .ok (.ldc 36, 2) := by decide +kernel
theorem dX2_init_182 : decode cX2_init 182 = .ok (.iastore, 1) := by decide +kernel
theorem dX2_init_183 : decode cX2_init 183 = .ok (.dup, 1) := by decide +kernel
theorem dX2_init_184 : decode cX2_init 184 = .ok (.bipush 30, 2) := by decide +kernel
theorem dX2_init_186 : decode cX2_init 186 = .ok (.ldc 37, 2) := by decide +kernel
theorem dX2_init_188 : decode cX2_init 188 = .ok (.iastore, 1) := by decide +kernel
theorem dX2_init_189 : decode cX2_init 189 = .ok (.dup, 1) := by decide +kernel
theorem dX2_init_190 : decode cX2_init 190 = .ok (.bipush 31, 2) := by decide +kernel
theorem dX2_init_192 : decode cX2_init 192 = .ok (.ldc 38, 2) := by decide +kernel
theorem dX2_init_194 : decode cX2_init 194 = .ok (.iastore, 1) := by decide +kernel
theorem dX2_init_195 : decode cX2_init 195 = .ok (.dup, 1) := by decide +kernel
theorem dX2_init_196 : decode cX2_init 196 = .ok (.bipush 32, 2) := by decide +kernel
theorem dX2_init_198 : decode cX2_init 198 = .ok (.ldc 39, 2) := by decide +kernel
theorem dX2_init_200 : decode cX2_init 200 = .ok (.iastore, 1) := by decide +kernel
theorem dX2_init_201 : decode cX2_init 201 = .ok (.dup, 1) := by decide +kernel
theorem dX2_init_202 : decode cX2_init 202 = .ok (.bipush 33, 2) := by decide +kernel
theorem dX2_init_204 : decode cX2_init 204 = .ok (.ldc 40, 2) := by decide +kernel
theorem dX2_init_206 : decode cX2_init 206 = .ok (.iastore, 1) := by decide +kernel
theorem dX2_init_207 : decode cX2_init 207 = .ok (.dup, 1) := by decide +kernel
theorem dX2_init_208 : decode cX2_init 208 = .ok (.bipush 34, 2) := by decide +kernel
theorem dX2_init_210 : decode cX2_init 210 = .ok (.ldc 41, 2) := by decide +kernel
theorem dX2_init_212 : decode cX2_init 212 = .ok (.iastore, 1) := by decide +kernel
theorem dX2_init_213 : decode cX2_init 213 = .ok (.dup, 1) := by decide +kernel
theorem dX2_init_214 : decode cX2_init 214 = .ok (.bipush 35, 2) := by decide +kernel
theorem dX2_init_216 : decode cX2_init 216 = .ok (.ldc 42, 2) := by decide +kernel
theorem dX2_init_218 : decode cX2_init 218 = .ok (.iastore, 1) := by decide +kernel
theorem dX2_init_219 : decode cX2_init 219 = .ok (.dup, 1) := by decide +kernel
theorem dX2_init_220 : decode cX2_init 220 = .ok (.bipush 36, 2) := by decide +kernel
theorem dX2_init_222 : decode cX2_init 222 = .ok (.ldc 43, 2) := by decide +kernel
theorem dX2_init_224 : decode cX2_init 224 = .ok (.iastore, 1) := by decide +kernel
theorem dX2_init_225 : decode cX2_init 225 = .ok (.dup, 1) := by decide +kernel
theorem dX2_init_226 : decode cX2_init 226 = .ok (.bipush 37, 2) := by decide +kernel
theorem dX2_init_228 : decode cX2_init 228 = .ok (.ldc 44, 2) := by decide +kernel
theorem dX2_init_230 : decode cX2_init 230 = .ok (.iastore, 1) := by decide +kernel
theorem dX2_init_231 : decode cX2_init 231 = .ok (.dup, 1) := by decide +kernel
theorem dX2_init_232 : decode cX2_init 232 = .ok (.bipush 38, 2) := by decide +kernel
theorem dX2_init_234 : decode cX2_init 234 = .ok (.ldc 45, 2) := by decide +kernel
theorem dX2_init_236 : decode cX2_init 236 = .ok (.iastore, 1) := by decide +kernel
theorem dX2_init_237 : decode cX2_init 237 = .ok (.dup, 1) := by decide +kernel
theorem dX2_init_238 : decode cX2_init 238 = .ok (.bipush 39, 2) := by decide +kernel
theorem dX2_init_240 : decode cX2_init 240 = .ok (.ldc 46, 2) := by decide +kernel
theorem dX2_init_242 : decode cX2_init 242 = .ok (.iastore, 1) := by decide +kernel
theorem dX2_init_243 : decode cX2_init 243 = .ok (.dup, 1) := by decide +kernel
theorem dX2_init_244 : decode cX2_init 244 = .ok (.bipush 40, 2) := by decide +kernel
theorem dX2_init_246 : decode cX2_init 246 = .ok (.ldc 47, 2) := by decide +kernel
theorem dX2_init_248 : decode cX2_init 248 = .ok (.iastore, 1) := by decide +kernel
theorem dX2_init_249 : decode cX2_init 249 = .ok (.dup, 1) := by decide +kernel
theorem dX2_init_250 : decode cX2_init 250 = .ok (.bipush 41, 2) := by decide +kernel
theorem dX2_init_252 : decode cX2_init 252 = .ok (.ldc 48, 2) := by decide +kernel
theorem dX2_init_254 : decode cX2_init 254 = .ok (.iastore, 1) := by decide +kernel
theorem dX2_init_255 : decode cX2_init 255 = .ok (.dup, 1) := by decide +kernel
theorem dX2_init_256 : decode cX2_init 256 = .ok (.bipush 42, 2) := by decide +kernel
theorem dX2_init_258 : decode cX2_init 258 = .ok (.ldc 49, 2) := by decide +kernel
theorem dX2_init_260 : decode cX2_init 260 = .ok (.iastore, 1) := by decide +kernel
theorem dX2_init_261 : decode cX2_init 261 = .ok (.dup, 1) := by decide +kernel
theorem dX2_init_262 : decode cX2_init 262 = .ok (.bipush 43, 2) := by decide +kernel
theorem dX2_init_264 : decode cX2_init 264 = .ok (.ldc 50, 2) := by decide +kernel
theorem dX2_init_266 : decode cX2_init 266 = .ok (.iastore, 1) := by decide +kernel
theorem dX2_init_267 : decode cX2_init 267 = .ok (.dup, 1) := by decide +kernel
theorem dX2_init_268 : decode cX2_init 268 = .ok (.bipush 44, 2) := by decide +kernel
theorem dX2_init_270 : decode cX2_init 270 = .ok (.ldc 51, 2) := by decide +kernel
theorem dX2_init_272 : decode cX2_init 272 = .ok (.iastore, 1) := by decide +kernel
theorem dX2_init_273 : decode cX2_init 273 = .ok (.dup, 1) := by decide +kernel
theorem dX2_init_274 : decode cX2_init 274 = .ok (.bipush 45, 2) := by decide +kernel
theorem dX2_init_276 : decode cX2_init 276 = .ok (.ldc 52, 2) := by decide +kernel
theorem dX2_init_278 : decode cX2_init 278 = .ok (.iastore, 1) := by decide +kernel
theorem dX2_init_279 : decode cX2_init 279 = .ok (.dup, 1) := by decide +kernel
theorem dX2_init_280 : decode cX2_init 280 = .ok (.bipush 46, 2) := by decide +kernel
theorem dX2_init_282 : decode cX2_init 282 = .ok (.ldc 53, 2) := by decide +kernel
theorem dX2_init_284 : decode cX2_init 284 = .ok (.iastore, 1) := by decide +kernel
theorem dX2_init_285 : decode cX2_init 285 = .ok (.dup, 1) := by decide +kernel
theorem dX2_init_286 : decode cX2_init 286 = .ok (.bipush 47, 2) := by decide +kernel
theorem dX2_init_288 : decode cX2_init 288 = .ok (.ldc 54, 2) := by decide +kernel
theorem dX2_init_290 : decode cX2_init 290 = .ok (.iastore, 1) := by decide +kernel
theorem dX2_init_291 : decode cX2_init 291 = .ok (.dup, 1) := by decide +kernel
theorem dX2_init_292 : decode cX2_init 292 = .ok (.bipush 48, 2) := by decide +kernel
theorem dX2_init_294 : decode cX2_init 294 = .ok (.ldc 55, 2) := by decide +kernel
theorem dX2_init_296 : decode cX2_init 296 = .ok (.iastore, 1) := by decide +kernel
theorem dX2_init_297 : decode cX2_init 297 = .ok (.dup, 1) := by decide +kernel
theorem dX2_init_298 : decode cX2_init 298 = .ok (.bipush 49, 2) := by decide +kernel
theorem dX2_init_300 : decode cX2_init 300 = .ok (.ldc 56, 2) := by decide +kernel
theorem dX2_init_302 : decode cX2_init 302 = .ok (.iastore, 1) := by decide +kernel
theorem dX2_init_303 : decode cX2_init 303 = .ok (.dup, 1) := by decide +kernel
theorem dX2_init_304 : decode cX2_init 304 = .ok (.bipush 50, 2) := by decide +kernel
theorem dX2_init_306 : decode cX2_init 306 = .ok (.ldc 57, 2) := by decide +kernel
theorem dX2_init_308 : decode cX2_init 308 = .ok (.iastore, 1) := by decide +kernel
theorem dX2_init_309 : decode cX2_init 309 = .ok (.dup, 1) := by decide +kernel
theorem dX2_init_310 : decode cX2_init 310 = .ok (.bipush 51, 2) := by decide +kernel
theorem dX2_init_312 : decode cX2_init 312 = .ok (.ldc 58, 2) := by decide +kernel
theorem dX2_init_314 : decode cX2_init 314 = .ok (.iastore, 1) := by decide +kernel
theorem dX2_init_315 : decode cX2_init 315 = .ok (.dup, 1) := by decide +kernel
theorem dX2_init_316 : decode cX2_init 316 = .ok (.bipush 52, 2) := by decide +kernel
theorem dX2_init_318 : decode cX2_init 318 = .ok (.ldc 59, 2) := by decide +kernel
theorem dX2_init_320 : decode cX2_init 320 = .ok (.iastore, 1) := by decide +kernel
theorem dX2_init_321 : decode cX2_init 321 = .ok (.dup, 1) := by decide +kernel
theorem dX2_init_322 : decode cX2_init 322 = .ok (.bipush 53, 2) := by decide +kernel
theorem dX2_init_324 : decode cX2_init 324 = .ok (.ldc 60, 2) := by decide +kernel
theorem dX2_init_326 : decode cX2_init 326 = .ok (.iastore, 1) := by decide +kernel
theorem dX2_init_327 : decode cX2_init 327 = .ok (.dup, 1) := by decide +kernel
theorem dX2_init_328 : decode cX2_init 328 = .ok (.bipush 54, 2) := by decide +kernel
theorem dX2_init_330 : decode cX2_init 330 = .ok (.ldc 61, 2) := by decide +kernel
theorem dX2_init_332 : decode cX2_init 332 = .ok (.iastore, 1) := by decide +kernel
theorem dX2_init_333 : decode cX2_init 333 = .ok (.dup, 1) := by decide +kernel
theorem dX2_init_334 : decode cX2_init 334 = .ok (.bipush 55, 2) := by decide +kernel
theorem dX2_init_336 : decode cX2_init 336 = .ok (.ldc 62, 2) := by decide +kernel
theorem dX2_init_338 : decode cX2_init 338 = .ok (.iastore, 1) := by decide +kernel
theorem dX2_init_339 : decode cX2_init 339 = .ok (.dup, 1) := by decide +kernel
theorem dX2_init_340 : decode cX2_init 340 = .ok (.bipush 56, 2) := by decide +kernel
theorem dX2_init_342 : decode cX2_init 342 = .ok (.ldc 63, 2) := by decide +kernel
theorem dX2_init_344 : decode cX2_init 344 = .ok (.iastore, 1) := by decide +kernel
theorem dX2_init_345 : decode cX2_init 345 = .ok (.dup, 1) := by decide +kernel
theorem dX2_init_346 : decode cX2_init 346 = .ok (.bipush 57, 2) := by decide +kernel
theorem dX2_init_348 : decode cX2_init 348 = .ok (.ldc 64, 2) := by decide +kernel
theorem dX2_init_350 : decode cX2_init 350 = .ok (.iastore, 1) := by decide +kernel
theorem dX2_init_351 : decode cX2_init 351 = .ok (.dup, 1) := by decide +kernel
theorem dX2_init_352 : decode cX2_init 352 = .ok (.bipush 58, 2) := by decide +kernel
theorem dX2_init_354 : decode cX2_init 354 = .ok (.ldc 65, 2) := by decide +kernel
