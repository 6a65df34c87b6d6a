/-! 09.checkb: the numbered instructions checked by the kernel: printed by wip/tools/genchk.py -/
set_option maxRecDepth 100000 in
theorem okB_215 : OKB 215 := OKB.of (by decide +kernel)
set_option maxRecDepth 100000 in
theorem okM_215 : okM 215 = true := by decide +kernel
set_option maxRecDepth 100000 in
theorem okB_216 : OKB 216 := OKB.of (by decide +kernel)
set_option maxRecDepth 100000 in
theorem okM_216 : okM 216 = true := by decide +kernel
set_option maxRecDepth 100000 in
theorem okB_217 : OKB 217 := OKB.of (by decide +kernel)
set_option maxRecDepth 100000 in
theorem okM_217 : okM 217 = true := by decide +kernel
set_option maxRecDepth 100000 in
theorem okB_218 : OKB 218 := OKB.of (by decide +kernel)
set_option maxRecDepth 100000 in
theorem okM_218 : okM 218 = true := by decide +kernel
set_option maxRecDepth 100000 in
theorem okB_220 : OKB 220 := OKB.of (by decide +kernel)
set_option maxRecDepth 100000 in
theorem okM_220 : okM 220 = true := by decide +kernel
set_option maxRecDepth 100000 in
theorem okB_221 : OKB 221 := OKB.of (by decide +kernel)
set_option maxRecDepth 100000 in
theorem okM_221 : okM 221 = true := by decide +kernel
set_option maxRecDepth 100000 in
theorem okB_222 : OKB 222 := OKB.of (by decide +kernel)
set_option maxRecDepth 100000 in
theorem okM_222 : okM 222 = true := by decide +kernel
set_option maxRecDepth 100000 in
theorem okB_223 : OKB 223 := OKB.of (by decide +kernel)
set_option maxRecDepth 100000 in
theorem okM_223 : okM 223 = true := by decide +kernel
set_option maxRecDepth 100000 in
theorem okB_224 : OKB 224 := OKB.of (by decide +kernel)
set_option maxRecDepth 100000 in
theorem okM_224 : okM 224 = true := by decide +kernel
set_option maxRecDepth 100000 in
theorem okB_225 : OKB 225 := OKB.of (by decide +kernel)
set_option maxRecDepth 100000 in
theorem okM_225 : okM 225 = true := by decide +kernel
set_option maxRecDepth 100000 in
theorem okB_226 : OKB 226 := OKB.of (by decide +kernel)
set_option maxRecDepth 100000 in
theorem okM_226 : okM 226 = true := by decide +kernel
set_option maxRecDepth 100000 in
theorem okB_227 : OKB 227 := OKB.of (by decide +kernel)
set_option maxRecDepth 100000 in
theorem okM_227 : okM 227 = true := by decide +kernel
set_option maxRecDepth 100000 in
theorem okB_228 : OKB 228 := OKB.of (by decide +kernel)
set_option maxRecDepth 100000 in
theorem okM_228 : okM 228 = true := by decide +kernel
set_option maxRecDepth 100000 in
theorem okB_229 : OKB 229 := OKB.of (by decide +kernel)
set_option maxRecDepth 100000 in
theorem okM_229 : okM 229 = true := by decide +kernel
set_option maxRecDepth 100000 in
theorem okB_230 : OKB 230 := OKB.of (by decide +kernel)
set_option maxRecDepth 100000 in
theorem okM_230 : okM 230 = true := by decide +kernel
set_option maxRecDepth 100000 in
theorem okB_231 : OKB 231 := OKB.of (by decide +kernel)
set_option maxRecDepth 100000 in
theorem okM_231 : okM 231 = true := by decide +kernel
set_option maxRecDepth 100000 in
theorem okB_232 : OKB 232 := OKB.of (by decide +kernel)
set_option maxRecDepth 100000 in
theorem okM_232 : okM 232 = true := by decide +kernel
set_option maxRecDepth 100000 in
theorem okB_233 : OKB 233 := OKB.of (by decide +kernel)
set_option maxRecDepth 100000 in
theorem okM_233 : okM 233 = true := by decide +kernel
set_option maxRecDepth 100000 in
theorem okB_234 : OKB 234 := OKB.of (by decide +kernel)
set_option maxRecDepth 100000 in
theorem okM_234 : okM 234 = true := by decide +kernel
set_option maxRecDepth 100000 in
theorem okB_235 : OKB 235 := OKB.of (by decide +kernel)
set_option maxRecDepth 100000 in
theorem okM_235 : okM 235 = true := by decide +kernel
set_option maxRecDepth 100000 in
theorem okB_236 : OKB 236 := OKB.of (by decide +kernel)
set_option maxRecDepth 100000 in
theorem okM_236 : okM 236 = true := by decide +kernel
set_option maxRecDepth 100000 in
theorem okB_237 : OKB 237 := OKB.of (by decide +kernel)
set_option maxRecDepth 100000 in
theorem okM_237 : okM 237 = true := by decide +kernel
set_option maxRecDepth 100000 in
theorem okB_238 : OKB 238 := OKB.of (by decide +kernel)
set_option maxRecDepth 100000 in
theorem okM_238 : okM 238 = true := by decide +kernel
set_option maxRecDepth 100000 in
theorem okB_239 : OKB 239 := OKB.of (by decide +kernel)
set_option maxRecDepth 100000 in
theorem okM_239 : okM 239 = true := by decide +kernel
set_option maxRecDepth 100000 in
theorem okB_240 : OKB 240 := OKB.of (by decide +kernel)
set_option maxRecDepth 100000 in
theorem okM_240 : okM 240 = true := by decide +kernel
set_option maxRecDepth 100000 in
theorem okB_241 : OKB 241 := OKB.of (by decide +kernel)
set_option maxRecDepth 100000 in
theorem okM_241 : okM 241 = true := by decide +kernel
set_option maxRecDepth 100000 in
theorem okB_242 : OKB 242 := OKB.of (by decide +kernel)
set_option maxRecDepth 100000 in
theorem okM_242 : okM 242 = true := by decide +kernel
set_option maxRecDepth 100000 in
theorem okB_243 : OKB 243 := OKB.of (by decide +kernel)
set_option maxRecDepth 100000 in
theorem okM_243 : okM 243 = true := by decide +kernel
set_option maxRecDepth 100000 in
theorem okB_244 : OKB 244 := OKB.of (by decide +kernel)
set_option maxRecDepth 100000 in
theorem okM_244 : okM 244 = true := by decide +kernel
set_option maxRecDepth 100000 in
theorem okB_245 : OKB 245 := OKB.of (by decide +kernel)
set_option maxRecDepth 100000 in
theorem okM_245 : okM 245 = true := by decide +kernel
set_option maxRecDepth 100000 in
theorem okB_246 : OKB 246 := OKB.of (by decide +kernel)
set_option maxRecDepth 100000 in
theorem okM_246 : okM 246 = true := by decide +kernel
set_option maxRecDepth 100000 in
theorem okB_247 : OKB 247 := OKB.of (by decide +kernel)
set_option maxRecDepth 100000 in
theorem okM_247 : okM 247 = true := by decide +kernel
set_option maxRecDepth 100000 in
theorem okB_248 : OKB 248 := OKB.of (by decide +kernel)
set_option maxRecDepth 100000 in
theorem okM_248 : okM 248 = true := by decide +kernel
set_option maxRecDepth 100000 in
theorem okB_249 : OKB 249 := OKB.of (by decide +kernel)
set_option maxRecDepth 100000 in
theorem okM_249 : okM 249 = true := by decide +kernel
set_option maxRecDepth 100000 in
theorem okB_250 : OKB 250 := OKB.of (by decide +kernel)
set_option maxRecDepth 100000 in
theorem okM_250 : okM 250 = true := by decide +kernel
set_option maxRecDepth 100000 in
theorem okB_251 : OKB 251 := OKB.of (by decide +kernel)
set_option maxRecDepth 100000 in
theorem okM_251 : okM 251 = true := by decide +kernel
set_option maxRecDepth 100000 in
theorem okB_252 : OKB 252 := OKB.of (by decide +kernel)
set_option maxRecDepth 100000 in
theorem okM_252 : okM 252 = true := by decide +kernel
set_option maxRecDepth 100000 in
theorem okB_253 : OKB 253 := OKB.of (by decide +kernel)
set_option maxRecDepth 100000 in
theorem okM_253 : okM 253 = true := by decide +kernel
set_option maxRecDepth 100000 in
theorem okB_254 : OKB 254 := OKB.of (by decide +kernel)
set_option maxRecDepth 100000 in
theorem okM_254 : okM 254 = true := by decide +kernel
set_option maxRecDepth 100000 in
theorem okB_255 : OKB 255 := OKB.of (by decide +kernel)
set_option maxRecDepth 100000 in
theorem okM_255 : okM 255 = true := by decide +kernel
set_option maxRecDepth 100000 in
theorem okB_256 : OKB 256 := OKB.of (by decide +kernel)
set_option maxRecDepth 100000 in
theorem okM_256 : okM 256 = true := by decide +kernel
set_option maxRecDepth 100000 in
theorem okB_257 : OKB 257 := OKB.of (by decide +kernel)
set_option maxRecDepth 100000 in
theorem okM_257 : okM 257 = true := by decide +kernel
set_option maxRecDepth 100000 in
theorem okB_258 : OKB 258 := OKB.of (by decide +kernel)
set_option maxRecDepth 100000 in
theorem okM_258 : okM 258 = true := by decide +kernel
set_option maxRecDepth 100000 in
theorem okB_259 : OKB 259 := OKB.of (by decide +kernel)
set_option maxRecDepth 100000 in
theorem okM_259 : okM 259 = true := by decide +kernel
set_option maxRecDepth 100000 in
theorem okB_260 : OKB 260 := OKB.of (by decide +kernel)
set_option maxRecDepth 100000 in
theorem okM_260 : okM 260 = true := by decide +kernel
set_option maxRecDepth 100000 in
theorem okB_261 : OKB 261 := OKB.of (by decide +kernel)
set_option maxRecDepth 100000 in
theorem okM_261 : okM 261 = true := by decide +kernel
set_option maxRecDepth 100000 in
theorem okB_262 : OKB 262 := OKB.of (by decide +kernel)
set_option maxRecDepth 100000 in
theorem okM_262 : okM 262 = true := by decide +kernel
set_option maxRecDepth 100000 in
theorem okB_263 : OKB 263 := OKB.of (by decide +kernel)
set_option maxRecDepth 100000 in
theorem okM_263 : okM 263 = true := by decide +kernel
set_option maxRecDepth 100000 in
theorem okB_264 : OKB 264 := OKB.of (by decide +kernel)
set_option maxRecDepth 100000 in
theorem okM_264 : okM 264 = true := by decide +kernel
set_option maxRecDepth 100000 in
theorem okB_265 : OKB 265 := OKB.of (by decide +kernel)
set_option maxRecDepth 100000 in
theorem okM_265 : okM 265 = true := by decide +kernel
set_option maxRecDepth 100000 in
theorem okB_266 : OKB 266 := OKB.of (by decide +kernel)
set_option maxRecDepth 100000 in
theorem okM_266 : okM 266 = true := by decide +kernel
set_option maxRecDepth 100000 in
theorem okB_267 : OKB 267 := OKB.of (by decide +kernel)
set_option maxRecDepth 100000 in
theorem okM_267 : okM 267 = true := by decide +kernel
set_option maxRecDepth 100000 in
theorem okB_268 : OKB 268 := OKB.of (by decide +kernel)
set_option maxRecDepth 100000 in
theorem okM_268 : okM 268 = true := by decide +kernel
set_option maxRecDepth 100000 in
theorem okB_269 : OKB 269 := OKB.of (by decide +kernel)
set_option maxRecDepth 100000 in
theorem okM_269 : okM 269 = true := by decide +kernel
set_option maxRecDepth 100000 in
theorem okB_270 : OKB 270 := OKB.of (by decide +kernel)
set_option maxRecDepth 100000 in
theorem okM_270 : okM 270 = true := by decide +kernel
set_option maxRecDepth 100000 in
theorem okB_271 : OKB 271 := OKB.of (by decide +kernel)
set_option maxRecDepth 100000 in
theorem okM_271 : okM 271 = true := by decide +kernel
set_option maxRecDepth 100000 in
theorem okB_272 : OKB 272 := OKB.of (by decide +kernel)
set_option maxRecDepth 100000 in
theorem okM_272 : okM 272 = true := by decide +kernel
set_option maxRecDepth 100000 in
theorem okB_273 : OKB 273 := OKB.of (by decide +kernel)
set_option maxRecDepth 100000 in
theorem okM_273 : okM 273 = true := by decide +kernel
set_option maxRecDepth 100000 in
theorem okB_274 : OKB 274 := OKB.of (by decide +kernel)
set_option maxRecDepth 100000 in
theorem okM_274 : okM 274 = true := by decide +kernel
set_option maxRecDepth 100000 in
theorem okB_275 : OKB 275 := OKB.of (by decide +kernel)
set_option maxRecDepth 100000 in
theorem okM_275 : okM 275 = true := by decide +kernel
set_option maxRecDepth 100000 in
theorem okB_276 : OKB 276 := OKB.of (by decide +kernel)
set_option maxRecDepth 100000 in
theorem okM_276 : okM 276 = true := by decide +kernel
set_option maxRecDepth 100000 in
theorem okB_277 : OKB 277 := OKB.of (by decide +kernel)
set_option maxRecDepth 100000 in
theorem okM_277 : okM 277 = true := by decide +kernel
set_option maxRecDepth 100000 in
theorem okB_278 : OKB 278 := OKB.of (by decide +kernel)
set_option maxRecDepth 100000 in
theorem okM_278 : okM 278 = true := by decide +kernel
set_option maxRecDepth 100000 in
theorem okB_279 : OKB 279 := OKB.of (by decide +kernel)
set_option maxRecDepth 100000 in
theorem okM_279 : okM 279 = true := by decide +kernel
set_option maxRecDepth 100000 in
theorem okB_280 : OKB 280 := OKB.of (by decide +kernel)
set_option maxRecDepth 100000 in
theorem okM_280 : okM 280 = true := by decide +kernel
set_option maxRecDepth 100000 in
theorem okB_281 : OKB 281 := OKB.of (by decide +kernel)
set_option maxRecDepth 100000 in
theorem okM_281 : okM 281 = true := by decide +kernel
set_option maxRecDepth 100000 in
theorem okB_282 : OKB 282 := OKB.of (by decide +kernel)
set_option maxRecDepth 100000 in
theorem okM_282 : okM 282 = true := by decide +kernel
set_option maxRecDepth 100000 in
theorem okB_283 : OKB 283 := OKB.of (by decide +kernel)
set_option maxRecDepth 100000 in
theorem okM_283 : okM 283 = true := by decide +kernel
set_option maxRecDepth 100000 in
theorem okB_284 : OKB 284 := OKB.of (by decide +kernel)
set_option maxRecDepth 100000 in
theorem okM_284 : okM 284 = true := by decide +kernel
set_option maxRecDepth 100000 in
theorem okB_285 : OKB 285 := OKB.of (by decide +kernel)
set_option maxRecDepth 100000 in
theorem okM_285 : okM 285 = true := by decide +kernel
set_option maxRecDepth 100000 in
theorem okB_286 : OKB 286 := OKB.of (by decide +kernel)
set_option maxRecDepth 100000 in
theorem okM_286 : okM 286 = true := by decide +kernel
set_option maxRecDepth 100000 in
theorem okB_287 : OKB 287 := OKB.of (by decide +kernel)
set_option maxRecDepth 100000 in
theorem okM_287 : okM 287 = true := by decide +kernel
set_option maxRecDepth 100000 in
theorem okB_288 : OKB 288 := OKB.of (by decide +kernel)
set_option maxRecDepth 100000 in
theorem okM_288 : okM 288 = true := by decide +kernel
set_option maxRecDepth 100000 in
theorem okB_289 : OKB 289 := OKB.of (by decide +kernel)
set_option maxRecDepth 100000 in
theorem okM_289 : okM 289 = true := by decide +kernel
set_option maxRecDepth 100000 in
theorem okB_290 : OKB 290 := OKB.of (by decide +kernel)
set_option maxRecDepth 100000 in
theorem okM_290 : okM 290 = true := by decide +kernel
set_option maxRecDepth 100000 in
theorem okB_291 : OKB 291 := OKB.of (by decide +kernel)
set_option maxRecDepth 100000 in
theorem okM_291 : okM 291 = true := by decide +kernel
set_option maxRecDepth 100000 in
theorem okB_292 : OKB 292 := OKB.of (by decide +kernel)
set_option maxRecDepth 100000 in
theorem okM_292 : okM 292 = true := by decide +kernel
set_option maxRecDepth 100000 in
theorem okB_293 : OKB 293 := OKB.of (by decide +kernel)
set_option maxRecDepth 100000 in
theorem okM_293 : okM 293 = true := by decide +kernel
set_option maxRecDepth 100000 in
theorem okB_294 : OKB 294 := OKB.of (by decide +kernel)
set_option maxRecDepth 100000 in
theorem okM_294 : okM 294 = true := by decide +kernel
set_option maxRecDepth 100000 in
theorem okB_295 : OKB 295 := OKB.of (by decide +kernel)
set_option maxRecDepth 100000 in
theorem okM_295 : okM 295 = true := by decide +kernel
set_option maxRecDepth 100000 in
theorem okB_296 : OKB 296 := OKB.of (by decide +kernel)
set_option maxRecDepth 100000 in
theorem okM_296 : okM 296 = true := by decide +kernel
set_option maxRecDepth 100000 in
theorem okB_297 : OKB 297 := OKB.of (by decide +kernel)
set_option maxRecDepth 100000 in
theorem okM_297 : okM 297 = true := by decide +kernel
set_option maxRecDepth 100000 in
theorem okB_298 : OKB 298 := OKB.of (by decide +kernel)
set_option maxRecDepth 100000 in
theorem okM_298 : okM 298 = true := by decide +kernel
set_option maxRecDepth 100000 in
theorem okB_299 : OKB 299 := OKB.of (by decide +kernel)
set_option maxRecDepth 100000 in
theorem okM_299 : okM 299 = true := by decide +kernel
set_option maxRecDepth 100000 in
theorem okB_300 : OKB 300 := OKB.of (by decide +kernel)
set_option maxRecDepth 100000 in
theorem okM_300 : okM 300 = true := by decide +kernel
set_option maxRecDepth 100000 in
theorem okB_301 : OKB 301 := OKB.of (by decide +kernel)
set_option maxRecDepth 100000 in
theorem okM_301 : okM 301 = true := by decide +kernel
set_option maxRecDepth 100000 in
theorem okB_302 : OKB 302 := OKB.of (by decide +kernel)
set_option maxRecDepth 100000 in
theorem okM_302 : okM 302 = true := by decide +kernel
set_option maxRecDepth 100000 in
theorem okB_303 : OKB 303 := OKB.of (by decide +kernel)
set_option maxRecDepth 100000 in
theorem okM_303 : okM 303 = true := by decide +kernel
set_option maxRecDepth 100000 in
theorem okB_304 : OKB 304 := OKB.of (by decide +kernel)
set_option maxRecDepth 100000 in
theorem okM_304 : okM 304 = true := by decide +kernel
set_option maxRecDepth 100000 in
theorem okB_305 : OKB 305 := OKB.of (by decide +kernel)
set_option maxRecDepth 100000 in
theorem okM_305 : okM 305 = true := by decide +kernel
set_option maxRecDepth 100000 in
theorem okB_306 : OKB 306 := OKB.of (by decide +kernel)
set_option maxRecDepth 100000 in
theorem okM_306 : okM 306 = true := by decide +kernel
set_option maxRecDepth 100000 in
theorem okB_307 : OKB 307 := OKB.of (by decide +kernel)
set_option maxRecDepth 100000 in
theorem okM_307 : okM 307 = true := by decide +kernel
set_option maxRecDepth 100000 in
theorem okB_308 : OKB 308 := OKB.of (by decide +kernel)
set_option maxRecDepth 100000 in
theorem okM_308 : okM 308 = true := by decide +kernel
set_option maxRecDepth 100000 in
theorem okB_309 : OKB 309 := OKB.of (by decide +kernel)
set_option maxRecDepth 100000 in
theorem okM_309 : okM 309 = true := by decide +kernel
set_option maxRecDepth 100000 in
theorem okB_310 : OKB 310 := OKB.of (by decide +kernel)
set_option maxRecDepth 100000 in
theorem okM_310 : okM 310 = true := by decide +kernel
set_option maxRecDepth 100000 in
theorem okB_311 : OKB 311 := OKB.of (by decide +kernel)
set_option maxRecDepth 100000 in
theorem okM_311 : okM 311 = true := by decide +kernel
set_option maxRecDepth 100000 in
theorem okB_312 : OKB 312 := OKB.of (by decide +kernel)
set_option maxRecDepth 100000 in
theorem okM_312 : okM 312 = true := by decide +kernel
set_option maxRecDepth 100000 in
theorem okB_313 : OKB 313 := OKB.of (by decide +kernel)
set_option maxRecDepth 100000 in
theorem okM_313 : okM 313 = true := by decide +kernel
set_option maxRecDepth 100000 in
theorem okB_314 : OKB 314 := OKB.of (by decide +kernel)
set_option maxRecDepth 100000 in
theorem okM_314 : okM 314 = true := by decide +kernel
set_option maxRecDepth 100000 in
theorem okB_315 : OKB 315 := OKB.of (by decide +kernel)
set_option maxRecDepth 100000 in
theorem okM_315 : okM 315 = true := by decide +kernel
set_option maxRecDepth 100000 in
theorem okB_316 : OKB 316 := OKB.of (by decide +kernel)
set_option maxRecDepth 100000 in
theorem okM_316 : okM 316 = true := by decide +kernel
set_option maxRecDepth 100000 in
theorem okB_318 : OKB 318 := OKB.of (by decide +kernel)
set_option maxRecDepth 100000 in
theorem okM_318 : okM 318 = true := by decide +kernel
set_option maxRecDepth 100000 in
theorem okB_319 : OKB 319 := OKB.of (by decide +kernel)
set_option maxRecDepth 100000 in
theorem okM_319 : okM 319 = true := by decide +kernel
set_option maxRecDepth 100000 in
theorem okB_322 : OKB 322 := OKB.of (by decide +kernel)
set_option maxRecDepth 100000 in
theorem okM_322 : okM 322 = true := by decide +kernel
set_option maxRecDepth 100000 in
theorem okB_323 : OKB 323 := OKB.of (by decide +kernel)
set_option maxRecDepth 100000 in
theorem okM_323 : okM 323 = true := by decide +kernel
set_option maxRecDepth 100000 in
theorem okB_324 : OKB 324 := OKB.of (by decide +kernel)
set_option maxRecDepth 100000 in
theorem okM_324 : okM 324 = true := by decide +kernel
set_option maxRecDepth 100000 in
theorem okB_325 : OKB 325 := OKB.of (by decide +kernel)
set_option maxRecDepth 100000 in
theorem okM_325 : okM 325 = true := by decide +kernel
set_option maxRecDepth 100000 in
theorem okB_326 : OKB 326 := OKB.of (by decide +kernel)
set_option maxRecDepth 100000 in
theorem okM_326 : okM 326 = true := by decide +kernel
set_option maxRecDepth 100000 in
theorem okB_327 : OKB 327 := OKB.of (by decide +kernel)
set_option maxRecDepth 100000 in
theorem okM_327 : okM 327 = true := by decide +kernel
set_option maxRecDepth 100000 in
theorem okB_328 : OKB 328 := OKB.of (by decide +kernel)
set_option maxRecDepth 100000 in
theorem okM_328 : okM 328 = true := by decide +kernel
set_option maxRecDepth 100000 in
theorem okB_329 : OKB 329 := OKB.of (by decide +kernel)
set_option maxRecDepth 100000 in
theorem okM_329 : okM 329 = true := by decide +kernel
set_option maxRecDepth 100000 in
theorem okB_330 : OKB 330 := OKB.of (by decide +kernel)
set_option maxRecDepth 100000 in
theorem okM_330 : okM 330 = true := by decide +kernel
set_option maxRecDepth 100000 in
theorem okB_331 : OKB 331 := OKB.of (by decide +kernel)
set_option maxRecDepth 100000 in
theorem okM_331 : okM 331 = true := by decide +kernel
set_option maxRecDepth 100000 in
theorem okB_332 : OKB 332 := OKB.of (by decide +kernel)
set_option maxRecDepth 100000 in
theorem okM_332 : okM 332 = true := by decide +kernel
set_option maxRecDepth 100000 in
theorem okB_333 : OKB 333 := OKB.of (by decide +kernel)
set_option maxRecDepth 100000 in
theorem okM_333 : okM 333 = true := by decide +kernel
set_option maxRecDepth 100000 in
theorem okB_334 : OKB 334 := OKB.of (by decide +kernel)
set_option maxRecDepth 100000 in
theorem okM_334 : okM 334 = true := by decide +kernel
set_option maxRecDepth 100000 in
theorem okB_335 : OKB 335 := OKB.of (by decide +kernel)
set_option maxRecDepth 100000 in
theorem okM_335 : okM 335 = true := by decide +kernel
set_option maxRecDepth 100000 in
theorem okB_337 : OKB 337 := OKB.of (by decide +kernel)
set_option maxRecDepth 100000 in
theorem okM_337 : okM 337 = true := by decide +kernel
set_option maxRecDepth 100000 in
theorem okB_338 : OKB 338 := OKB.of (by decide +kernel)
set_option maxRecDepth 100000 in
theorem okM_338 : okM 338 = true := by decide +kernel
set_option maxRecDepth 100000 in
theorem okB_339 : OKB 339 := OKB.of (by decide +kernel)
set_option maxRecDepth 100000 in
theorem okM_339 : okM 339 = true := by decide +kernel
set_option maxRecDepth 100000 in
theorem okB_340 : OKB 340 := OKB.of (by decide +kernel)
set_option maxRecDepth 100000 in
theorem okM_340 : okM 340 = true := by decide +kernel
set_option maxRecDepth 100000 in
theorem okB_341 : OKB 341 := OKB.of (by decide +kernel)
set_option maxRecDepth 100000 in
theorem okM_341 : okM 341 = true := by decide +kernel
set_option maxRecDepth 100000 in
theorem okB_342 : OKB 342 := OKB.of (by decide +kernel)
set_option maxRecDepth 100000 in
theorem okM_342 : okM 342 = true := by decide +kernel
set_option maxRecDepth 100000 in
theorem okB_343 : OKB 343 := OKB.of (by decide +kernel)
set_option maxRecDepth 100000 in
theorem okM_343 : okM 343 = true := by decide +kernel
set_option maxRecDepth 100000 in
theorem okB_344 : OKB 344 := OKB.of (by decide +kernel)
set_option maxRecDepth 100000 in
theorem okM_344 : okM 344 = true := by decide +kernel
set_option maxRecDepth 100000 in
theorem okB_346 : OKB 346 := OKB.of (by decide +kernel)
set_option maxRecDepth 100000 in
theorem okM_346 : okM 346 = true := by decide +kernel
set_option maxRecDepth 100000 in
theorem okB_347 : OKB 347 := OKB.of (by decide +kernel)
set_option maxRecDepth 100000 in
theorem okM_347 : okM 347 = true := by decide +kernel
set_option maxRecDepth 100000 in
theorem okB_348 : OKB 348 := OKB.of (by decide +kernel)
set_option maxRecDepth 100000 in
theorem okM_348 : okM 348 = true := by decide +kernel
set_option maxRecDepth 100000 in
theorem okB_349 : OKB 349 := OKB.of (by decide +kernel)
set_option maxRecDepth 100000 in
theorem okM_349 : okM 349 = true := by decide +kernel
set_option maxRecDepth 100000 in
theorem okB_350 : OKB 350 := OKB.of (by decide +kernel)
set_option maxRecDepth 100000 in
theorem okM_350 : okM 350 = true := by decide +kernel
set_option maxRecDepth 100000 in
theorem okB_351 : OKB 351 := OKB.of (by decide +kernel)
set_option maxRecDepth 100000 in
theorem okM_351 : okM 351 = true := by decide +kernel
set_option maxRecDepth 100000 in
theorem okB_352 : OKB 352 := OKB.of (by decide +kernel)
set_option maxRecDepth 100000 in
theorem okM_352 : okM 352 = true := by decide +kernel
set_option maxRecDepth 100000 in
theorem okB_353 : OKB 353 := OKB.of (by decide +kernel)
set_option maxRecDepth 100000 in
theorem okM_353 : okM 353 = true := by decide +kernel
set_option maxRecDepth 100000 in
theorem okB_354 : OKB 354 := OKB.of (by decide +kernel)
set_option maxRecDepth 100000 in
theorem okM_354 : okM 354 = true := by decide +kernel
set_option maxRecDepth 100000 in
theorem okB_355 : OKB 355 := OKB.of (by decide +kernel)
set_option maxRecDepth 100000 in
theorem okM_355 : okM 355 = true := by decide +kernel
set_option maxRecDepth 100000 in
theorem okB_356 : OKB 356 := OKB.of (by decide +kernel)
set_option maxRecDepth 100000 in
theorem okM_356 : okM 356 = true := by decide +kernel
set_option maxRecDepth 100000 in
theorem okB_357 : OKB 357 := OKB.of (by decide +kernel)
set_option maxRecDepth 100000 in
theorem okM_357 : okM 357 = true := by decide +kernel
set_option maxRecDepth 100000 in
theorem okB_358 : OKB 358 := OKB.of (by decide +kernel)
set_option maxRecDepth 100000 in
theorem okM_358 : okM 358 = true := by decide +kernel
set_option maxRecDepth 100000 in
theorem okB_359 : OKB 359 := OKB.of (by decide +kernel)
set_option maxRecDepth 100000 in
theorem okM_359 : okM 359 = true := by decide +kernel
set_option maxRecDepth 100000 in
theorem okB_360 : OKB 360 := OKB.of (by decide +kernel)
set_option maxRecDepth 100000 in
theorem okM_360 : okM 360 = true := by decide +kernel
set_option maxRecDepth 100000 in
theorem okB_361 : OKB 361 := OKB.of (by decide +kernel)
set_option maxRecDepth 100000 in
theorem okM_361 : okM 361 = true := by decide +kernel
set_option maxRecDepth 100000 in
theorem okB_363 : OKB 363 := OKB.of (by decide +kernel)
set_option maxRecDepth 100000 in
theorem okM_363 : okM 363 = true := by decide +kernel
set_option maxRecDepth 100000 in
theorem okB_364 : OKB 364 := OKB.of (by decide +kernel)
set_option maxRecDepth 100000 in
theorem okM_364 : okM 364 = true := by decide +kernel
set_option maxRecDepth 100000 in
theorem okB_365 : OKB 365 := OKB.of (by decide +kernel)
set_option maxRecDepth 100000 in
theorem okM_365 : okM 365 = true := by decide +kernel
set_option maxRecDepth 100000 in
theorem okB_366 : OKB 366 := OKB.of (by decide +kernel)
set_option maxRecDepth 100000 in
theorem okM_366 : okM 366 = true := by decide +kernel
set_option maxRecDepth 100000 in
theorem okB_367 : OKB 367 := OKB.of (by decide +kernel)
set_option maxRecDepth 100000 in
theorem okM_367 : okM 367 = true := by decide +kernel
set_option maxRecDepth 100000 in
theorem okB_368 : OKB 368 := OKB.of (by decide +kernel)
set_option maxRecDepth 100000 in
theorem okM_368 : okM 368 = true := by decide +kernel
set_option maxRecDepth 100000 in
theorem okB_369 : OKB 369 := OKB.of (by decide +kernel)
set_option maxRecDepth 100000 in
theorem okM_369 : okM 369 = true := by decide +kernel
set_option maxRecDepth 100000 in
theorem okB_370 : OKB 370 := OKB.of (by decide +kernel)
set_option maxRecDepth 100000 in
theorem okM_370 : okM 370 = true := by decide +kernel
set_option maxRecDepth 100000 in
theorem okB_371 : OKB 371 := OKB.of (by decide +kernel)
set_option maxRecDepth 100000 in
theorem okM_371 : okM 371 = true := by decide +kernel
set_option maxRecDepth 100000 in
theorem okB_372 : OKB 372 := OKB.of (by decide +kernel)
set_option maxRecDepth 100000 in
theorem okM_372 : okM 372 = true := by decide +kernel
set_option maxRecDepth 100000 in
theorem okB_373 : OKB 373 := OKB.of (by decide +kernel)
set_option maxRecDepth 100000 in
theorem okM_373 : okM 373 = true := by decide +kernel
set_option maxRecDepth 100000 in
theorem okB_374 : OKB 374 := OKB.of (by decide +kernel)
set_option maxRecDepth 100000 in
theorem okM_374 : okM 374 = true := by decide +kernel
set_option maxRecDepth 100000 in
theorem okB_375 : OKB 375 := OKB.of (by decide +kernel)
set_option maxRecDepth 100000 in
theorem okM_375 : okM 375 = true := by decide +kernel
set_option maxRecDepth 100000 in
theorem okB_376 : OKB 376 := OKB.of (by decide +kernel)
set_option maxRecDepth 100000 in
theorem okM_376 : okM 376 = true := by decide +kernel
set_option maxRecDepth 100000 in
theorem okB_377 : OKB 377 := OKB.of (by decide +kernel)
set_option maxRecDepth 100000 in
theorem okM_377 : okM 377 = true := by decide +kernel
set_option maxRecDepth 100000 in
theorem okB_378 : OKB 378 := OKB.of (by decide +kernel)
set_option maxRecDepth 100000 in
theorem okM_378 : okM 378 = true := by decide +kernel
set_option maxRecDepth 100000 in
theorem okB_379 : OKB 379 := OKB.of (by decide +kernel)
set_option maxRecDepth 100000 in
theorem okM_379 : okM 379 = true := by decide +kernel
set_option maxRecDepth 100000 in
theorem okB_380 : OKB 380 := OKB.of (by decide +kernel)
set_option maxRecDepth 100000 in
theorem okM_380 : okM 380 = true := by decide +kernel
set_option maxRecDepth 100000 in
theorem okB_381 : OKB 381 := OKB.of (by decide +kernel)
set_option maxRecDepth 100000 in
theorem okM_381 : okM 381 = true := by decide +kernel
set_option maxRecDepth 100000 in
theorem okB_384 : OKB 384 := OKB.of (by decide +kernel)
set_option maxRecDepth 100000 in
theorem okM_384 : okM 384 = true := by decide +kernel
set_option maxRecDepth 100000 in
theorem okB_385 : OKB 385 := OKB.of (by decide +kernel)
set_option maxRecDepth 100000 in
theorem okM_385 : okM 385 = true := by decide +kernel
set_option maxRecDepth 100000 in
theorem okB_386 : OKB 386 := OKB.of (by decide +kernel)
set_option maxRecDepth 100000 in
theorem okM_386 : okM 386 = true := by decide +kernel
set_option maxRecDepth 100000 in
theorem okB_387 : OKB 387 := OKB.of (by decide +kernel)
set_option maxRecDepth 100000 in
theorem okM_387 : okM 387 = true := by decide +kernel
set_option maxRecDepth 100000 in
theorem okB_389 : OKB 389 := OKB.of (by decide +kernel)
set_option maxRecDepth 100000 in
theorem okM_389 : okM 389 = true := by decide +kernel
set_option maxRecDepth 100000 in
theorem okB_390 : OKB 390 := OKB.of (by decide +kernel)
set_option maxRecDepth 100000 in
theorem okM_390 : okM 390 = true := by decide +kernel
set_option maxRecDepth 100000 in
theorem okB_392 : OKB 392 := OKB.of (by decide +kernel)
set_option maxRecDepth 100000 in
theorem okM_392 : okM 392 = true := by decide +kernel
set_option maxRecDepth 100000 in
theorem okB_393 : OKB 393 := OKB.of (by decide +kernel)
set_option maxRecDepth 100000 in
theorem okM_393 : okM 393 = true := by decide +kernel
set_option maxRecDepth 100000 in
theorem okB_394 : OKB 394 := OKB.of (by decide +kernel)
set_option maxRecDepth 100000 in
theorem okM_394 : okM 394 = true := by decide +kernel
set_option maxRecDepth 100000 in
theorem okB_395 : OKB 395 := OKB.of (by decide +kernel)
set_option maxRecDepth 100000 in
theorem okM_395 : okM 395 = true := by decide +kernel
set_option maxRecDepth 100000 in
theorem okB_396 : OKB 396 := OKB.of (by decide +kernel)
set_option maxRecDepth 100000 in
theorem okM_396 : okM 396 = true := by decide +kernel
set_option maxRecDepth 100000 in
theorem okB_397 : OKB 397 := OKB.of (by decide +kernel)
set_option maxRecDepth 100000 in
theorem okM_397 : okM 397 = true := by decide +kernel
set_option maxRecDepth 100000 in
theorem okB_398 : OKB 398 := OKB.of (by decide +kernel)
set_option maxRecDepth 100000 in
theorem okM_398 : okM 398 = true := by decide +kernel
set_option maxRecDepth 100000 in
theorem okB_400 : OKB 400 := OKB.of (by decide +kernel)
set_option maxRecDepth 100000 in
theorem okM_400 : okM 400 = true := by decide +kernel
set_option maxRecDepth 100000 in
theorem okB_401 : OKB 401 := OKB.of (by decide +kernel)
set_option maxRecDepth 100000 in
theorem okM_401 : okM 401 = true := by decide +kernel
set_option maxRecDepth 100000 in
theorem okB_404 : OKB 404 := OKB.of (by decide +kernel)
set_option maxRecDepth 100000 in
theorem okM_404 : okM 404 = true := by decide +kernel
set_option maxRecDepth 100000 in
theorem okB_405 : OKB 405 := OKB.of (by decide +kernel)
set_option maxRecDepth 100000 in
theorem okM_405 : okM 405 = true := by decide +kernel
set_option maxRecDepth 100000 in
theorem okB_406 : OKB 406 := OKB.of (by decide +kernel)
set_option maxRecDepth 100000 in
theorem okM_406 : okM 406 = true := by decide +kernel
set_option maxRecDepth 100000 in
theorem okB_407 : OKB 407 := OKB.of (by decide +kernel)
set_option maxRecDepth 100000 in
theorem okM_407 : okM 407 = true := by decide +kernel
set_option maxRecDepth 100000 in
theorem okB_408 : OKB 408 := OKB.of (by decide +kernel)
set_option maxRecDepth 100000 in
theorem okM_408 : okM 408 = true := by decide +kernel
set_option maxRecDepth 100000 in
theorem okB_409 : OKB 409 := OKB.of (by decide +kernel)
set_option maxRecDepth 100000 in
theorem okM_409 : okM 409 = true := by decide +kernel
set_option maxRecDepth 100000 in
theorem okB_411 : OKB 411 := OKB.of (by decide +kernel)
set_option maxRecDepth 100000 in
theorem okM_411 : okM 411 = true := by decide +kernel
set_option maxRecDepth 100000 in
theorem okB_412 : OKB 412 := OKB.of (by decide +kernel)
set_option maxRecDepth 100000 in
theorem okM_412 : okM 412 = true := by decide +kernel
set_option maxRecDepth 100000 in
theorem okB_414 : OKB 414 := OKB.of (by decide +kernel)
set_option maxRecDepth 100000 in
theorem okM_414 : okM 414 = true := by decide +kernel
set_option maxRecDepth 100000 in
theorem okB_415 : OKB 415 := OKB.of (by decide +kernel)
set_option maxRecDepth 100000 in
theorem okM_415 : okM 415 = true := by decide +kernel
set_option maxRecDepth 100000 in
theorem okB_416 : OKB 416 := OKB.of (by decide +kernel)
set_option maxRecDepth 100000 in
theorem okM_416 : okM 416 = true := by decide +kernel
set_option maxRecDepth 100000 in
theorem okB_417 : OKB 417 := OKB.of (by decide +kernel)
set_option maxRecDepth 100000 in
theorem okM_417 : okM 417 = true := by decide +kernel
set_option maxRecDepth 100000 in
theorem okB_418 : OKB 418 := OKB.of (by decide +kernel)
set_option maxRecDepth 100000 in
theorem okM_418 : okM 418 = true := by decide +kernel
set_option maxRecDepth 100000 in
theorem okB_419 : OKB 419 := OKB.of (by decide +kernel)
set_option maxRecDepth 100000 in
theorem okM_419 : okM 419 = true := by decide +kernel
set_option maxRecDepth 100000 in
theorem okB_420 : OKB 420 := OKB.of (by decide +kernel)
set_option maxRecDepth 100000 in
theorem okM_420 : okM 420 = true := by decide +kernel
set_option maxRecDepth 100000 in
theorem okB_422 : OKB 422 := OKB.of (by decide +kernel)
set_option maxRecDepth 100000 in
theorem okM_422 : okM 422 = true := by decide +kernel
set_option maxRecDepth 100000 in
theorem okB_423 : OKB 423 := OKB.of (by decide +kernel)
set_option maxRecDepth 100000 in
theorem okM_423 : okM 423 = true := by decide +kernel
set_option maxRecDepth 100000 in
theorem okB_424 : OKB 424 := OKB.of (by decide +kernel)
set_option maxRecDepth 100000 in
theorem okM_424 : okM 424 = true := by decide +kernel
set_option maxRecDepth 100000 in
theorem okB_425 : OKB 425 := OKB.of (by decide +kernel)
set_option maxRecDepth 100000 in
theorem okM_425 : okM 425 = true := by decide +kernel
set_option maxRecDepth 100000 in
theorem okB_426 : OKB 426 := OKB.of (by decide +kernel)
set_option maxRecDepth 100000 in
theorem okM_426 : okM 426 = true := by decide +kernel
set_option maxRecDepth 100000 in
theorem okB_427 : OKB 427 := OKB.of (by decide +kernel)
set_option maxRecDepth 100000 in
theorem okM_427 : okM 427 = true := by decide +kernel
set_option maxRecDepth 100000 in
theorem okB_428 : OKB 428 := OKB.of (by decide +kernel)
set_option maxRecDepth 100000 in
theorem okM_428 : okM 428 = true := by decide +kernel
set_option maxRecDepth 100000 in
theorem okB_429 : OKB 429 := OKB.of (by decide +kernel)
set_option maxRecDepth 100000 in
theorem okM_429 : okM 429 = true := by decide +kernel
set_option maxRecDepth 100000 in
theorem okB_430 : OKB 430 := OKB.of (by decide +kernel)
set_option maxRecDepth 100000 in
theorem okM_430 : okM 430 = true := by decide +kernel
set_option maxRecDepth 100000 in
theorem okB_431 : OKB 431 := OKB.of (by decide +kernel)
set_option maxRecDepth 100000 in
theorem okM_431 : okM 431 = true := by decide +kernel
set_option maxRecDepth 100000 in
theorem okB_432 : OKB 432 := OKB.of (by decide +kernel)
set_option maxRecDepth 100000 in
theorem okM_432 : okM 432 = true := by decide +kernel
set_option maxRecDepth 100000 in
theorem okB_433 : OKB 433 := OKB.of (by decide +kernel)
set_option maxRecDepth 100000 in
theorem okM_433 : okM 433 = true := by decide +kernel
set_option maxRecDepth 100000 in
theorem okB_434 : OKB 434 := OKB.of (by decide +kernel)
set_option maxRecDepth 100000 in
theorem okM_434 : okM 434 = true := by decide +kernel
set_option maxRecDepth 100000 in
theorem okB_436 : OKB 436 := OKB.of (by decide +kernel)
set_option maxRecDepth 100000 in
theorem okM_436 : okM 436 = true := by decide +kernel
set_option maxRecDepth 100000 in
theorem okB_437 : OKB 437 := OKB.of (by decide +kernel)
set_option maxRecDepth 100000 in
theorem okM_437 : okM 437 = true := by decide +kernel
set_option maxRecDepth 100000 in
theorem okB_438 : OKB 438 := OKB.of (by decide +kernel)
set_option maxRecDepth 100000 in
theorem okM_438 : okM 438 = true := by decide +kernel
set_option maxRecDepth 100000 in
theorem okB_439 : OKB 439 := OKB.of (by decide +kernel)
set_option maxRecDepth 100000 in
theorem okM_439 : okM 439 = true := by decide +kernel
set_option maxRecDepth 100000 in
theorem okB_441 : OKB 441 := OKB.of (by decide +kernel)
set_option maxRecDepth 100000 in
theorem okM_441 : okM 441 = true := by decide +kernel
set_option maxRecDepth 100000 in
theorem okB_442 : OKB 442 := OKB.of (by decide +kernel)
set_option maxRecDepth 100000 in
theorem okM_442 : okM 442 = true := by decide +kernel
set_option maxRecDepth 100000 in
theorem okB_443 : OKB 443 := OKB.of (by decide +kernel)
set_option maxRecDepth 100000 in
theorem okM_443 : okM 443 = true := by decide +kernel
set_option maxRecDepth 100000 in
theorem okB_444 : OKB 444 := OKB.of (by decide +kernel)
set_option maxRecDepth 100000 in
theorem okM_444 : okM 444 = true := by decide +kernel
