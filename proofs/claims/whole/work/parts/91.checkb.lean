/-! 09.checkb: the numbered instructions checked by the kernel: printed by wip/tools/genchk.py -/
set_option maxRecDepth 100000 in
theorem okB_215 : OKB 215 := OKB.of (by decide +kernel)
set_option maxRecDepth 100000 in
theorem okM_215 : OM 215 := ⟨rfl, by decide +kernel⟩
set_option maxRecDepth 100000 in
theorem okB_216 : OKB 216 := OKB.of (by decide +kernel)
set_option maxRecDepth 100000 in
theorem okM_216 : OM 216 := ⟨rfl, by decide +kernel⟩
set_option maxRecDepth 100000 in
theorem okB_217 : OKB 217 := OKB.of (by decide +kernel)
set_option maxRecDepth 100000 in
theorem okM_217 : OM 217 := ⟨rfl, by decide +kernel⟩
set_option maxRecDepth 100000 in
theorem okB_218 : OKB 218 := OKB.of (by decide +kernel)
set_option maxRecDepth 100000 in
theorem okM_218 : OM 218 := ⟨rfl, by decide +kernel⟩
set_option maxRecDepth 100000 in
theorem okB_220 : OKB 220 := OKB.of (by decide +kernel)
set_option maxRecDepth 100000 in
theorem okM_220 : OM 220 := ⟨rfl, by decide +kernel⟩
set_option maxRecDepth 100000 in
theorem okB_221 : OKB 221 := OKB.of (by decide +kernel)
set_option maxRecDepth 100000 in
theorem okM_221 : OM 221 := ⟨rfl, by decide +kernel⟩
set_option maxRecDepth 100000 in
theorem okB_222 : OKB 222 := OKB.of (by decide +kernel)
set_option maxRecDepth 100000 in
theorem okM_222 : OM 222 := ⟨rfl, by decide +kernel⟩
set_option maxRecDepth 100000 in
theorem okB_223 : OKB 223 := OKB.of (by decide +kernel)
set_option maxRecDepth 100000 in
theorem okM_223 : OM 223 := ⟨rfl, by decide +kernel⟩
set_option maxRecDepth 100000 in
theorem okB_224 : OKB 224 := OKB.of (by decide +kernel)
set_option maxRecDepth 100000 in
theorem okM_224 : OM 224 := ⟨rfl, by decide +kernel⟩
set_option maxRecDepth 100000 in
theorem okB_225 : OKB 225 := OKB.of (by decide +kernel)
set_option maxRecDepth 100000 in
theorem okM_225 : OM 225 := ⟨rfl, by decide +kernel⟩
set_option maxRecDepth 100000 in
theorem okB_226 : OKB 226 := OKB.of (by decide +kernel)
set_option maxRecDepth 100000 in
theorem okM_226 : OM 226 := ⟨rfl, by decide +kernel⟩
set_option maxRecDepth 100000 in
theorem okB_227 : OKB 227 := OKB.of (by decide +kernel)
set_option maxRecDepth 100000 in
theorem okM_227 : OM 227 := ⟨rfl, by decide +kernel⟩
set_option maxRecDepth 100000 in
theorem okB_228 : OKB 228 := OKB.of (by decide +kernel)
set_option maxRecDepth 100000 in
theorem okM_228 : OM 228 := ⟨rfl, by decide +kernel⟩
set_option maxRecDepth 100000 in
theorem okB_229 : OKB 229 := OKB.of (by decide +kernel)
set_option maxRecDepth 100000 in
theorem okM_229 : OM 229 := ⟨rfl, by decide +kernel⟩
set_option maxRecDepth 100000 in
theorem okB_230 : OKB 230 := OKB.of (by decide +kernel)
set_option maxRecDepth 100000 in
theorem okM_230 : OM 230 := ⟨rfl, by decide +kernel⟩
set_option maxRecDepth 100000 in
theorem okB_231 : OKB 231 := OKB.of (by decide +kernel)
set_option maxRecDepth 100000 in
theorem okM_231 : OM 231 := ⟨rfl, by decide +kernel⟩
set_option maxRecDepth 100000 in
theorem okB_232 : OKB 232 := OKB.of (by decide +kernel)
set_option maxRecDepth 100000 in
theorem okM_232 : OM 232 := ⟨rfl, by decide +kernel⟩
set_option maxRecDepth 100000 in
theorem okB_233 : OKB 233 := OKB.of (by decide +kernel)
set_option maxRecDepth 100000 in
theorem okM_233 : OM 233 := ⟨rfl, by decide +kernel⟩
set_option maxRecDepth 100000 in
theorem okB_234 : OKB 234 := OKB.of (by decide +kernel)
set_option maxRecDepth 100000 in
theorem okM_234 : OM 234 := ⟨rfl, by decide +kernel⟩
set_option maxRecDepth 100000 in
theorem okB_235 : OKB 235 := OKB.of (by decide +kernel)
set_option maxRecDepth 100000 in
theorem okM_235 : OM 235 := ⟨rfl, by decide +kernel⟩
set_option maxRecDepth 100000 in
theorem okB_236 : OKB 236 := OKB.of (by decide +kernel)
set_option maxRecDepth 100000 in
theorem okM_236 : OM 236 := ⟨rfl, by decide +kernel⟩
set_option maxRecDepth 100000 in
theorem okB_237 : OKB 237 := OKB.of (by decide +kernel)
set_option maxRecDepth 100000 in
theorem okM_237 : OM 237 := ⟨rfl, by decide +kernel⟩
set_option maxRecDepth 100000 in
theorem okB_238 : OKB 238 := OKB.of (by decide +kernel)
set_option maxRecDepth 100000 in
theorem okM_238 : OM 238 := ⟨rfl, by decide +kernel⟩
set_option maxRecDepth 100000 in
theorem okB_239 : OKB 239 := OKB.of (by decide +kernel)
set_option maxRecDepth 100000 in
theorem okM_239 : OM 239 := ⟨rfl, by decide +kernel⟩
set_option maxRecDepth 100000 in
theorem okB_240 : OKB 240 := OKB.of (by decide +kernel)
set_option maxRecDepth 100000 in
theorem okM_240 : OM 240 := ⟨rfl, by decide +kernel⟩
set_option maxRecDepth 100000 in
theorem okB_241 : OKB 241 := OKB.of (by decide +kernel)
set_option maxRecDepth 100000 in
theorem okM_241 : OM 241 := ⟨rfl, by decide +kernel⟩
set_option maxRecDepth 100000 in
theorem okB_242 : OKB 242 := OKB.of (by decide +kernel)
set_option maxRecDepth 100000 in
theorem okM_242 : OM 242 := ⟨rfl, by decide +kernel⟩
set_option maxRecDepth 100000 in
theorem okB_243 : OKB 243 := OKB.of (by decide +kernel)
set_option maxRecDepth 100000 in
theorem okM_243 : OM 243 := ⟨rfl, by decide +kernel⟩
set_option maxRecDepth 100000 in
theorem okB_244 : OKB 244 := OKB.of (by decide +kernel)
set_option maxRecDepth 100000 in
theorem okM_244 : OM 244 := ⟨rfl, by decide +kernel⟩
set_option maxRecDepth 100000 in
theorem okB_245 : OKB 245 := OKB.of (by decide +kernel)
set_option maxRecDepth 100000 in
theorem okM_245 : OM 245 := ⟨rfl, by decide +kernel⟩
set_option maxRecDepth 100000 in
theorem okB_246 : OKB 246 := OKB.of (by decide +kernel)
set_option maxRecDepth 100000 in
theorem okM_246 : OM 246 := ⟨rfl, by decide +kernel⟩
set_option maxRecDepth 100000 in
theorem okB_247 : OKB 247 := OKB.of (by decide +kernel)
set_option maxRecDepth 100000 in
theorem okM_247 : OM 247 := ⟨rfl, by decide +kernel⟩
set_option maxRecDepth 100000 in
theorem okB_248 : OKB 248 := OKB.of (by decide +kernel)
set_option maxRecDepth 100000 in
theorem okM_248 : OM 248 := ⟨rfl, by decide +kernel⟩
set_option maxRecDepth 100000 in
theorem okB_249 : OKB 249 := OKB.of (by decide +kernel)
set_option maxRecDepth 100000 in
theorem okM_249 : OM 249 := ⟨rfl, by decide +kernel⟩
set_option maxRecDepth 100000 in
theorem okB_250 : OKB 250 := OKB.of (by decide +kernel)
set_option maxRecDepth 100000 in
theorem okM_250 : OM 250 := ⟨rfl, by decide +kernel⟩
set_option maxRecDepth 100000 in
theorem okB_251 : OKB 251 := OKB.of (by decide +kernel)
set_option maxRecDepth 100000 in
theorem okM_251 : OM 251 := ⟨rfl, by decide +kernel⟩
set_option maxRecDepth 100000 in
theorem okB_252 : OKB 252 := OKB.of (by decide +kernel)
set_option maxRecDepth 100000 in
theorem okM_252 : OM 252 := ⟨rfl, by decide +kernel⟩
set_option maxRecDepth 100000 in
theorem okB_253 : OKB 253 := OKB.of (by decide +kernel)
set_option maxRecDepth 100000 in
theorem okM_253 : OM 253 := ⟨rfl, by decide +kernel⟩
set_option maxRecDepth 100000 in
theorem okB_254 : OKB 254 := OKB.of (by decide +kernel)
set_option maxRecDepth 100000 in
theorem okM_254 : OM 254 := ⟨rfl, by decide +kernel⟩
set_option maxRecDepth 100000 in
theorem okB_255 : OKB 255 := OKB.of (by decide +kernel)
set_option maxRecDepth 100000 in
theorem okM_255 : OM 255 := ⟨rfl, by decide +kernel⟩
set_option maxRecDepth 100000 in
theorem okB_256 : OKB 256 := OKB.of (by decide +kernel)
set_option maxRecDepth 100000 in
theorem okM_256 : OM 256 := ⟨rfl, by decide +kernel⟩
set_option maxRecDepth 100000 in
theorem okB_257 : OKB 257 := OKB.of (by decide +kernel)
set_option maxRecDepth 100000 in
theorem okM_257 : OM 257 := ⟨rfl, by decide +kernel⟩
set_option maxRecDepth 100000 in
theorem okB_258 : OKB 258 := OKB.of (by decide +kernel)
set_option maxRecDepth 100000 in
theorem okM_258 : OM 258 := ⟨rfl, by decide +kernel⟩
set_option maxRecDepth 100000 in
theorem okB_259 : OKB 259 := OKB.of (by decide +kernel)
set_option maxRecDepth 100000 in
theorem okM_259 : OM 259 := ⟨rfl, by decide +kernel⟩
set_option maxRecDepth 100000 in
theorem okB_260 : OKB 260 := OKB.of (by decide +kernel)
set_option maxRecDepth 100000 in
theorem okM_260 : OM 260 := ⟨rfl, by decide +kernel⟩
set_option maxRecDepth 100000 in
theorem okB_261 : OKB 261 := OKB.of (by decide +kernel)
set_option maxRecDepth 100000 in
theorem okM_261 : OM 261 := ⟨rfl, by decide +kernel⟩
set_option maxRecDepth 100000 in
theorem okB_262 : OKB 262 := OKB.of (by decide +kernel)
set_option maxRecDepth 100000 in
theorem okM_262 : OM 262 := ⟨rfl, by decide +kernel⟩
set_option maxRecDepth 100000 in
theorem okB_263 : OKB 263 := OKB.of (by decide +kernel)
set_option maxRecDepth 100000 in
theorem okM_263 : OM 263 := ⟨rfl, by decide +kernel⟩
set_option maxRecDepth 100000 in
theorem okB_264 : OKB 264 := OKB.of (by decide +kernel)
set_option maxRecDepth 100000 in
theorem okM_264 : OM 264 := ⟨rfl, by decide +kernel⟩
set_option maxRecDepth 100000 in
theorem okB_265 : OKB 265 := OKB.of (by decide +kernel)
set_option maxRecDepth 100000 in
theorem okM_265 : OM 265 := ⟨rfl, by decide +kernel⟩
set_option maxRecDepth 100000 in
theorem okB_266 : OKB 266 := OKB.of (by decide +kernel)
set_option maxRecDepth 100000 in
theorem okM_266 : OM 266 := ⟨rfl, by decide +kernel⟩
set_option maxRecDepth 100000 in
theorem okB_267 : OKB 267 := OKB.of (by decide +kernel)
set_option maxRecDepth 100000 in
theorem okM_267 : OM 267 := ⟨rfl, by decide +kernel⟩
set_option maxRecDepth 100000 in
theorem okB_268 : OKB 268 := OKB.of (by decide +kernel)
set_option maxRecDepth 100000 in
theorem okM_268 : OM 268 := ⟨rfl, by decide +kernel⟩
set_option maxRecDepth 100000 in
theorem okB_269 : OKB 269 := OKB.of (by decide +kernel)
set_option maxRecDepth 100000 in
theorem okM_269 : OM 269 := ⟨rfl, by decide +kernel⟩
set_option maxRecDepth 100000 in
theorem okB_270 : OKB 270 := OKB.of (by decide +kernel)
set_option maxRecDepth 100000 in
theorem okM_270 : OM 270 := ⟨rfl, by decide +kernel⟩
set_option maxRecDepth 100000 in
theorem okB_271 : OKB 271 := OKB.of (by decide +kernel)
set_option maxRecDepth 100000 in
theorem okM_271 : OM 271 := ⟨rfl, by decide +kernel⟩
set_option maxRecDepth 100000 in
theorem okB_272 : OKB 272 := OKB.of (by decide +kernel)
set_option maxRecDepth 100000 in
theorem okM_272 : OM 272 := ⟨rfl, by decide +kernel⟩
set_option maxRecDepth 100000 in
theorem okB_273 : OKB 273 := OKB.of (by decide +kernel)
set_option maxRecDepth 100000 in
theorem okM_273 : OM 273 := ⟨rfl, by decide +kernel⟩
set_option maxRecDepth 100000 in
theorem okB_274 : OKB 274 := OKB.of (by decide +kernel)
set_option maxRecDepth 100000 in
theorem okM_274 : OM 274 := ⟨rfl, by decide +kernel⟩
set_option maxRecDepth 100000 in
theorem okB_275 : OKB 275 := OKB.of (by decide +kernel)
set_option maxRecDepth 100000 in
theorem okM_275 : OM 275 := ⟨rfl, by decide +kernel⟩
set_option maxRecDepth 100000 in
theorem okB_276 : OKB 276 := OKB.of (by decide +kernel)
set_option maxRecDepth 100000 in
theorem okM_276 : OM 276 := ⟨rfl, by decide +kernel⟩
set_option maxRecDepth 100000 in
theorem okB_277 : OKB 277 := OKB.of (by decide +kernel)
set_option maxRecDepth 100000 in
theorem okM_277 : OM 277 := ⟨rfl, by decide +kernel⟩
set_option maxRecDepth 100000 in
theorem okB_278 : OKB 278 := OKB.of (by decide +kernel)
set_option maxRecDepth 100000 in
theorem okM_278 : OM 278 := ⟨rfl, by decide +kernel⟩
set_option maxRecDepth 100000 in
theorem okB_279 : OKB 279 := OKB.of (by decide +kernel)
set_option maxRecDepth 100000 in
theorem okM_279 : OM 279 := ⟨rfl, by decide +kernel⟩
set_option maxRecDepth 100000 in
theorem okB_280 : OKB 280 := OKB.of (by decide +kernel)
set_option maxRecDepth 100000 in
theorem okM_280 : OM 280 := ⟨rfl, by decide +kernel⟩
set_option maxRecDepth 100000 in
theorem okB_281 : OKB 281 := OKB.of (by decide +kernel)
set_option maxRecDepth 100000 in
theorem okM_281 : OM 281 := ⟨rfl, by decide +kernel⟩
set_option maxRecDepth 100000 in
theorem okB_282 : OKB 282 := OKB.of (by decide +kernel)
set_option maxRecDepth 100000 in
theorem okM_282 : OM 282 := ⟨rfl, by decide +kernel⟩
set_option maxRecDepth 100000 in
theorem okB_283 : OKB 283 := OKB.of (by decide +kernel)
set_option maxRecDepth 100000 in
theorem okM_283 : OM 283 := ⟨rfl, by decide +kernel⟩
set_option maxRecDepth 100000 in
theorem okB_284 : OKB 284 := OKB.of (by decide +kernel)
set_option maxRecDepth 100000 in
theorem okM_284 : OM 284 := ⟨rfl, by decide +kernel⟩
set_option maxRecDepth 100000 in
theorem okB_285 : OKB 285 := OKB.of (by decide +kernel)
set_option maxRecDepth 100000 in
theorem okM_285 : OM 285 := ⟨rfl, by decide +kernel⟩
set_option maxRecDepth 100000 in
theorem okB_286 : OKB 286 := OKB.of (by decide +kernel)
set_option maxRecDepth 100000 in
theorem okM_286 : OM 286 := ⟨rfl, by decide +kernel⟩
set_option maxRecDepth 100000 in
theorem okB_287 : OKB 287 := OKB.of (by decide +kernel)
set_option maxRecDepth 100000 in
theorem okM_287 : OM 287 := ⟨rfl, by decide +kernel⟩
set_option maxRecDepth 100000 in
theorem okB_288 : OKB 288 := OKB.of (by decide +kernel)
set_option maxRecDepth 100000 in
theorem okM_288 : OM 288 := ⟨rfl, by decide +kernel⟩
set_option maxRecDepth 100000 in
theorem okB_289 : OKB 289 := OKB.of (by decide +kernel)
set_option maxRecDepth 100000 in
theorem okM_289 : OM 289 := ⟨rfl, by decide +kernel⟩
set_option maxRecDepth 100000 in
theorem okB_290 : OKB 290 := OKB.of (by decide +kernel)
set_option maxRecDepth 100000 in
theorem okM_290 : OM 290 := ⟨rfl, by decide +kernel⟩
set_option maxRecDepth 100000 in
theorem okB_291 : OKB 291 := OKB.of (by decide +kernel)
set_option maxRecDepth 100000 in
theorem okM_291 : OM 291 := ⟨rfl, by decide +kernel⟩
set_option maxRecDepth 100000 in
theorem okB_292 : OKB 292 := OKB.of (by decide +kernel)
set_option maxRecDepth 100000 in
theorem okM_292 : OM 292 := ⟨rfl, by decide +kernel⟩
set_option maxRecDepth 100000 in
theorem okB_293 : OKB 293 := OKB.of (by decide +kernel)
set_option maxRecDepth 100000 in
theorem okM_293 : OM 293 := ⟨rfl, by decide +kernel⟩
set_option maxRecDepth 100000 in
theorem okB_294 : OKB 294 := OKB.of (by decide +kernel)
set_option maxRecDepth 100000 in
theorem okM_294 : OM 294 := ⟨rfl, by decide +kernel⟩
set_option maxRecDepth 100000 in
theorem okB_295 : OKB 295 := OKB.of (by decide +kernel)
set_option maxRecDepth 100000 in
theorem okM_295 : OM 295 := ⟨rfl, by decide +kernel⟩
set_option maxRecDepth 100000 in
theorem okB_296 : OKB 296 := OKB.of (by decide +kernel)
set_option maxRecDepth 100000 in
theorem okM_296 : OM 296 := ⟨rfl, by decide +kernel⟩
set_option maxRecDepth 100000 in
theorem okB_297 : OKB 297 := OKB.of (by decide +kernel)
set_option maxRecDepth 100000 in
theorem okM_297 : OM 297 := ⟨rfl, by decide +kernel⟩
set_option maxRecDepth 100000 in
theorem okB_298 : OKB 298 := OKB.of (by decide +kernel)
set_option maxRecDepth 100000 in
theorem okM_298 : OM 298 := ⟨rfl, by decide +kernel⟩
set_option maxRecDepth 100000 in
theorem okB_299 : OKB 299 := OKB.of (by decide +kernel)
set_option maxRecDepth 100000 in
theorem okM_299 : OM 299 := ⟨rfl, by decide +kernel⟩
set_option maxRecDepth 100000 in
theorem okB_300 : OKB 300 := OKB.of (by decide +kernel)
set_option maxRecDepth 100000 in
theorem okM_300 : OM 300 := ⟨rfl, by decide +kernel⟩
set_option maxRecDepth 100000 in
theorem okB_301 : OKB 301 := OKB.of (by decide +kernel)
set_option maxRecDepth 100000 in
theorem okM_301 : OM 301 := ⟨rfl, by decide +kernel⟩
set_option maxRecDepth 100000 in
theorem okB_302 : OKB 302 := OKB.of (by decide +kernel)
set_option maxRecDepth 100000 in
theorem okM_302 : OM 302 := ⟨rfl, by decide +kernel⟩
set_option maxRecDepth 100000 in
theorem okB_303 : OKB 303 := OKB.of (by decide +kernel)
set_option maxRecDepth 100000 in
theorem okM_303 : OM 303 := ⟨rfl, by decide +kernel⟩
set_option maxRecDepth 100000 in
theorem okB_304 : OKB 304 := OKB.of (by decide +kernel)
set_option maxRecDepth 100000 in
theorem okM_304 : OM 304 := ⟨rfl, by decide +kernel⟩
set_option maxRecDepth 100000 in
theorem okB_305 : OKB 305 := OKB.of (by decide +kernel)
set_option maxRecDepth 100000 in
theorem okM_305 : OM 305 := ⟨rfl, by decide +kernel⟩
set_option maxRecDepth 100000 in
theorem okB_306 : OKB 306 := OKB.of (by decide +kernel)
set_option maxRecDepth 100000 in
theorem okM_306 : OM 306 := ⟨rfl, by decide +kernel⟩
set_option maxRecDepth 100000 in
theorem okB_307 : OKB 307 := OKB.of (by decide +kernel)
set_option maxRecDepth 100000 in
theorem okM_307 : OM 307 := ⟨rfl, by decide +kernel⟩
set_option maxRecDepth 100000 in
theorem okB_308 : OKB 308 := OKB.of (by decide +kernel)
set_option maxRecDepth 100000 in
theorem okM_308 : OM 308 := ⟨rfl, by decide +kernel⟩
set_option maxRecDepth 100000 in
theorem okB_309 : OKB 309 := OKB.of (by decide +kernel)
set_option maxRecDepth 100000 in
theorem okM_309 : OM 309 := ⟨rfl, by decide +kernel⟩
set_option maxRecDepth 100000 in
theorem okB_310 : OKB 310 := OKB.of (by decide +kernel)
set_option maxRecDepth 100000 in
theorem okM_310 : OM 310 := ⟨rfl, by decide +kernel⟩
set_option maxRecDepth 100000 in
theorem okB_311 : OKB 311 := OKB.of (by decide +kernel)
set_option maxRecDepth 100000 in
theorem okM_311 : OM 311 := ⟨rfl, by decide +kernel⟩
set_option maxRecDepth 100000 in
theorem okB_312 : OKB 312 := OKB.of (by decide +kernel)
set_option maxRecDepth 100000 in
theorem okM_312 : OM 312 := ⟨rfl, by decide +kernel⟩
set_option maxRecDepth 100000 in
theorem okB_313 : OKB 313 := OKB.of (by decide +kernel)
set_option maxRecDepth 100000 in
theorem okM_313 : OM 313 := ⟨rfl, by decide +kernel⟩
set_option maxRecDepth 100000 in
theorem okB_314 : OKB 314 := OKB.of (by decide +kernel)
set_option maxRecDepth 100000 in
theorem okM_314 : OM 314 := ⟨rfl, by decide +kernel⟩
set_option maxRecDepth 100000 in
theorem okB_315 : OKB 315 := OKB.of (by decide +kernel)
set_option maxRecDepth 100000 in
theorem okM_315 : OM 315 := ⟨rfl, by decide +kernel⟩
set_option maxRecDepth 100000 in
theorem okB_316 : OKB 316 := OKB.of (by decide +kernel)
set_option maxRecDepth 100000 in
theorem okM_316 : OM 316 := ⟨rfl, by decide +kernel⟩
set_option maxRecDepth 100000 in
theorem okB_318 : OKB 318 := OKB.of (by decide +kernel)
set_option maxRecDepth 100000 in
theorem okM_318 : OM 318 := ⟨rfl, by decide +kernel⟩
set_option maxRecDepth 100000 in
theorem okB_319 : OKB 319 := OKB.of (by decide +kernel)
set_option maxRecDepth 100000 in
theorem okM_319 : OM 319 := ⟨rfl, by decide +kernel⟩
set_option maxRecDepth 100000 in
theorem okB_322 : OKB 322 := OKB.of (by decide +kernel)
set_option maxRecDepth 100000 in
theorem okM_322 : OM 322 := ⟨rfl, by decide +kernel⟩
set_option maxRecDepth 100000 in
theorem okB_323 : OKB 323 := OKB.of (by decide +kernel)
set_option maxRecDepth 100000 in
theorem okM_323 : OM 323 := ⟨rfl, by decide +kernel⟩
set_option maxRecDepth 100000 in
theorem okB_324 : OKB 324 := OKB.of (by decide +kernel)
set_option maxRecDepth 100000 in
theorem okM_324 : OM 324 := ⟨rfl, by decide +kernel⟩
set_option maxRecDepth 100000 in
theorem okB_325 : OKB 325 := OKB.of (by decide +kernel)
set_option maxRecDepth 100000 in
theorem okM_325 : OM 325 := ⟨rfl, by decide +kernel⟩
set_option maxRecDepth 100000 in
theorem okB_326 : OKB 326 := OKB.of (by decide +kernel)
set_option maxRecDepth 100000 in
theorem okM_326 : OM 326 := ⟨rfl, by decide +kernel⟩
set_option maxRecDepth 100000 in
theorem okB_327 : OKB 327 := OKB.of (by decide +kernel)
set_option maxRecDepth 100000 in
theorem okM_327 : OM 327 := ⟨rfl, by decide +kernel⟩
set_option maxRecDepth 100000 in
theorem okB_328 : OKB 328 := OKB.of (by decide +kernel)
set_option maxRecDepth 100000 in
theorem okM_328 : OM 328 := ⟨rfl, by decide +kernel⟩
set_option maxRecDepth 100000 in
theorem okB_329 : OKB 329 := OKB.of (by decide +kernel)
set_option maxRecDepth 100000 in
theorem okM_329 : OM 329 := ⟨rfl, by decide +kernel⟩
set_option maxRecDepth 100000 in
theorem okB_330 : OKB 330 := OKB.of (by decide +kernel)
set_option maxRecDepth 100000 in
theorem okM_330 : OM 330 := ⟨rfl, by decide +kernel⟩
set_option maxRecDepth 100000 in
theorem okB_331 : OKB 331 := OKB.of (by decide +kernel)
set_option maxRecDepth 100000 in
theorem okM_331 : OM 331 := ⟨rfl, by decide +kernel⟩
set_option maxRecDepth 100000 in
theorem okB_332 : OKB 332 := OKB.of (by decide +kernel)
set_option maxRecDepth 100000 in
theorem okM_332 : OM 332 := ⟨rfl, by decide +kernel⟩
set_option maxRecDepth 100000 in
theorem okB_333 : OKB 333 := OKB.of (by decide +kernel)
set_option maxRecDepth 100000 in
theorem okM_333 : OM 333 := ⟨rfl, by decide +kernel⟩
set_option maxRecDepth 100000 in
theorem okB_334 : OKB 334 := OKB.of (by decide +kernel)
set_option maxRecDepth 100000 in
theorem okM_334 : OM 334 := ⟨rfl, by decide +kernel⟩
set_option maxRecDepth 100000 in
theorem okB_335 : OKB 335 := OKB.of (by decide +kernel)
set_option maxRecDepth 100000 in
theorem okM_335 : OM 335 := ⟨rfl, by decide +kernel⟩
set_option maxRecDepth 100000 in
theorem okB_337 : OKB 337 := OKB.of (by decide +kernel)
set_option maxRecDepth 100000 in
theorem okM_337 : OM 337 := ⟨rfl, by decide +kernel⟩
set_option maxRecDepth 100000 in
theorem okB_338 : OKB 338 := OKB.of (by decide +kernel)
set_option maxRecDepth 100000 in
theorem okM_338 : OM 338 := ⟨rfl, by decide +kernel⟩
set_option maxRecDepth 100000 in
theorem okB_339 : OKB 339 := OKB.of (by decide +kernel)
set_option maxRecDepth 100000 in
theorem okM_339 : OM 339 := ⟨rfl, by decide +kernel⟩
set_option maxRecDepth 100000 in
theorem okB_340 : OKB 340 := OKB.of (by decide +kernel)
set_option maxRecDepth 100000 in
theorem okM_340 : OM 340 := ⟨rfl, by decide +kernel⟩
set_option maxRecDepth 100000 in
theorem okB_341 : OKB 341 := OKB.of (by decide +kernel)
set_option maxRecDepth 100000 in
theorem okM_341 : OM 341 := ⟨rfl, by decide +kernel⟩
set_option maxRecDepth 100000 in
theorem okB_342 : OKB 342 := OKB.of (by decide +kernel)
set_option maxRecDepth 100000 in
theorem okM_342 : OM 342 := ⟨rfl, by decide +kernel⟩
set_option maxRecDepth 100000 in
theorem okB_343 : OKB 343 := OKB.of (by decide +kernel)
set_option maxRecDepth 100000 in
theorem okM_343 : OM 343 := ⟨rfl, by decide +kernel⟩
set_option maxRecDepth 100000 in
theorem okB_344 : OKB 344 := OKB.of (by decide +kernel)
set_option maxRecDepth 100000 in
theorem okM_344 : OM 344 := ⟨rfl, by decide +kernel⟩
set_option maxRecDepth 100000 in
theorem okB_346 : OKB 346 := OKB.of (by decide +kernel)
set_option maxRecDepth 100000 in
theorem okM_346 : OM 346 := ⟨rfl, by decide +kernel⟩
set_option maxRecDepth 100000 in
theorem okB_347 : OKB 347 := OKB.of (by decide +kernel)
set_option maxRecDepth 100000 in
theorem okM_347 : OM 347 := ⟨rfl, by decide +kernel⟩
set_option maxRecDepth 100000 in
theorem okB_348 : OKB 348 := OKB.of (by decide +kernel)
set_option maxRecDepth 100000 in
theorem okM_348 : OM 348 := ⟨rfl, by decide +kernel⟩
set_option maxRecDepth 100000 in
theorem okB_349 : OKB 349 := OKB.of (by decide +kernel)
set_option maxRecDepth 100000 in
theorem okM_349 : OM 349 := ⟨rfl, by decide +kernel⟩
set_option maxRecDepth 100000 in
theorem okB_350 : OKB 350 := OKB.of (by decide +kernel)
set_option maxRecDepth 100000 in
theorem okM_350 : OM 350 := ⟨rfl, by decide +kernel⟩
set_option maxRecDepth 100000 in
theorem okB_351 : OKB 351 := OKB.of (by decide +kernel)
set_option maxRecDepth 100000 in
theorem okM_351 : OM 351 := ⟨rfl, by decide +kernel⟩
set_option maxRecDepth 100000 in
theorem okB_352 : OKB 352 := OKB.of (by decide +kernel)
set_option maxRecDepth 100000 in
theorem okM_352 : OM 352 := ⟨rfl, by decide +kernel⟩
set_option maxRecDepth 100000 in
theorem okB_353 : OKB 353 := OKB.of (by decide +kernel)
set_option maxRecDepth 100000 in
theorem okM_353 : OM 353 := ⟨rfl, by decide +kernel⟩
set_option maxRecDepth 100000 in
theorem okB_354 : OKB 354 := OKB.of (by decide +kernel)
set_option maxRecDepth 100000 in
theorem okM_354 : OM 354 := ⟨rfl, by decide +kernel⟩
set_option maxRecDepth 100000 in
theorem okB_355 : OKB 355 := OKB.of (by decide +kernel)
set_option maxRecDepth 100000 in
theorem okM_355 : OM 355 := ⟨rfl, by decide +kernel⟩
set_option maxRecDepth 100000 in
theorem okB_356 : OKB 356 := OKB.of (by decide +kernel)
set_option maxRecDepth 100000 in
theorem okM_356 : OM 356 := ⟨rfl, by decide +kernel⟩
set_option maxRecDepth 100000 in
theorem okB_357 : OKB 357 := OKB.of (by decide +kernel)
set_option maxRecDepth 100000 in
theorem okM_357 : OM 357 := ⟨rfl, by decide +kernel⟩
set_option maxRecDepth 100000 in
theorem okB_358 : OKB 358 := OKB.of (by decide +kernel)
set_option maxRecDepth 100000 in
theorem okM_358 : OM 358 := ⟨rfl, by decide +kernel⟩
set_option maxRecDepth 100000 in
theorem okB_359 : OKB 359 := OKB.of (by decide +kernel)
set_option maxRecDepth 100000 in
theorem okM_359 : OM 359 := ⟨rfl, by decide +kernel⟩
set_option maxRecDepth 100000 in
theorem okB_360 : OKB 360 := OKB.of (by decide +kernel)
set_option maxRecDepth 100000 in
theorem okM_360 : OM 360 := ⟨rfl, by decide +kernel⟩
set_option maxRecDepth 100000 in
theorem okB_361 : OKB 361 := OKB.of (by decide +kernel)
set_option maxRecDepth 100000 in
theorem okM_361 : OM 361 := ⟨rfl, by decide +kernel⟩
set_option maxRecDepth 100000 in
theorem okB_363 : OKB 363 := OKB.of (by decide +kernel)
set_option maxRecDepth 100000 in
theorem okM_363 : OM 363 := ⟨rfl, by decide +kernel⟩
set_option maxRecDepth 100000 in
theorem okB_364 : OKB 364 := OKB.of (by decide +kernel)
set_option maxRecDepth 100000 in
theorem okM_364 : OM 364 := ⟨rfl, by decide +kernel⟩
set_option maxRecDepth 100000 in
theorem okB_365 : OKB 365 := OKB.of (by decide +kernel)
set_option maxRecDepth 100000 in
theorem okM_365 : OM 365 := ⟨rfl, by decide +kernel⟩
set_option maxRecDepth 100000 in
theorem okB_366 : OKB 366 := OKB.of (by decide +kernel)
set_option maxRecDepth 100000 in
theorem okM_366 : OM 366 := ⟨rfl, by decide +kernel⟩
set_option maxRecDepth 100000 in
theorem okB_367 : OKB 367 := OKB.of (by decide +kernel)
set_option maxRecDepth 100000 in
theorem okM_367 : OM 367 := ⟨rfl, by decide +kernel⟩
set_option maxRecDepth 100000 in
theorem okB_368 : OKB 368 := OKB.of (by decide +kernel)
set_option maxRecDepth 100000 in
theorem okM_368 : OM 368 := ⟨rfl, by decide +kernel⟩
set_option maxRecDepth 100000 in
theorem okB_369 : OKB 369 := OKB.of (by decide +kernel)
set_option maxRecDepth 100000 in
theorem okM_369 : OM 369 := ⟨rfl, by decide +kernel⟩
set_option maxRecDepth 100000 in
theorem okB_370 : OKB 370 := OKB.of (by decide +kernel)
set_option maxRecDepth 100000 in
theorem okM_370 : OM 370 := ⟨rfl, by decide +kernel⟩
set_option maxRecDepth 100000 in
theorem okB_371 : OKB 371 := OKB.of (by decide +kernel)
set_option maxRecDepth 100000 in
theorem okM_371 : OM 371 := ⟨rfl, by decide +kernel⟩
set_option maxRecDepth 100000 in
theorem okB_372 : OKB 372 := OKB.of (by decide +kernel)
set_option maxRecDepth 100000 in
theorem okM_372 : OM 372 := ⟨rfl, by decide +kernel⟩
set_option maxRecDepth 100000 in
theorem okB_373 : OKB 373 := OKB.of (by decide +kernel)
set_option maxRecDepth 100000 in
theorem okM_373 : OM 373 := ⟨rfl, by decide +kernel⟩
set_option maxRecDepth 100000 in
theorem okB_374 : OKB 374 := OKB.of (by decide +kernel)
set_option maxRecDepth 100000 in
theorem okM_374 : OM 374 := ⟨rfl, by decide +kernel⟩
set_option maxRecDepth 100000 in
theorem okB_375 : OKB 375 := OKB.of (by decide +kernel)
set_option maxRecDepth 100000 in
theorem okM_375 : OM 375 := ⟨rfl, by decide +kernel⟩
set_option maxRecDepth 100000 in
theorem okB_376 : OKB 376 := OKB.of (by decide +kernel)
set_option maxRecDepth 100000 in
theorem okM_376 : OM 376 := ⟨rfl, by decide +kernel⟩
set_option maxRecDepth 100000 in
theorem okB_377 : OKB 377 := OKB.of (by decide +kernel)
set_option maxRecDepth 100000 in
theorem okM_377 : OM 377 := ⟨rfl, by decide +kernel⟩
set_option maxRecDepth 100000 in
theorem okB_378 : OKB 378 := OKB.of (by decide +kernel)
set_option maxRecDepth 100000 in
theorem okM_378 : OM 378 := ⟨rfl, by decide +kernel⟩
set_option maxRecDepth 100000 in
theorem okB_379 : OKB 379 := OKB.of (by decide +kernel)
set_option maxRecDepth 100000 in
theorem okM_379 : OM 379 := ⟨rfl, by decide +kernel⟩
set_option maxRecDepth 100000 in
theorem okB_380 : OKB 380 := OKB.of (by decide +kernel)
set_option maxRecDepth 100000 in
theorem okM_380 : OM 380 := ⟨rfl, by decide +kernel⟩
set_option maxRecDepth 100000 in
theorem okB_381 : OKB 381 := OKB.of (by decide +kernel)
set_option maxRecDepth 100000 in
theorem okM_381 : OM 381 := ⟨rfl, by decide +kernel⟩
set_option maxRecDepth 100000 in
theorem okB_384 : OKB 384 := OKB.of (by decide +kernel)
set_option maxRecDepth 100000 in
theorem okM_384 : OM 384 := ⟨rfl, by decide +kernel⟩
set_option maxRecDepth 100000 in
theorem okB_385 : OKB 385 := OKB.of (by decide +kernel)
set_option maxRecDepth 100000 in
theorem okM_385 : OM 385 := ⟨rfl, by decide +kernel⟩
set_option maxRecDepth 100000 in
theorem okB_386 : OKB 386 := OKB.of (by decide +kernel)
set_option maxRecDepth 100000 in
theorem okM_386 : OM 386 := ⟨rfl, by decide +kernel⟩
set_option maxRecDepth 100000 in
theorem okB_387 : OKB 387 := OKB.of (by decide +kernel)
set_option maxRecDepth 100000 in
theorem okM_387 : OM 387 := ⟨rfl, by decide +kernel⟩
set_option maxRecDepth 100000 in
theorem okB_389 : OKB 389 := OKB.of (by decide +kernel)
set_option maxRecDepth 100000 in
theorem okM_389 : OM 389 := ⟨rfl, by decide +kernel⟩
set_option maxRecDepth 100000 in
theorem okB_390 : OKB 390 := OKB.of (by decide +kernel)
set_option maxRecDepth 100000 in
theorem okM_390 : OM 390 := ⟨rfl, by decide +kernel⟩
set_option maxRecDepth 100000 in
theorem okB_392 : OKB 392 := OKB.of (by decide +kernel)
set_option maxRecDepth 100000 in
theorem okM_392 : OM 392 := ⟨rfl, by decide +kernel⟩
set_option maxRecDepth 100000 in
theorem okB_393 : OKB 393 := OKB.of (by decide +kernel)
set_option maxRecDepth 100000 in
theorem okM_393 : OM 393 := ⟨rfl, by decide +kernel⟩
set_option maxRecDepth 100000 in
theorem okB_394 : OKB 394 := OKB.of (by decide +kernel)
set_option maxRecDepth 100000 in
theorem okM_394 : OM 394 := ⟨rfl, by decide +kernel⟩
set_option maxRecDepth 100000 in
theorem okB_395 : OKB 395 := OKB.of (by decide +kernel)
set_option maxRecDepth 100000 in
theorem okM_395 : OM 395 := ⟨rfl, by decide +kernel⟩
set_option maxRecDepth 100000 in
theorem okB_396 : OKB 396 := OKB.of (by decide +kernel)
set_option maxRecDepth 100000 in
theorem okM_396 : OM 396 := ⟨rfl, by decide +kernel⟩
set_option maxRecDepth 100000 in
theorem okB_397 : OKB 397 := OKB.of (by decide +kernel)
set_option maxRecDepth 100000 in
theorem okM_397 : OM 397 := ⟨rfl, by decide +kernel⟩
set_option maxRecDepth 100000 in
theorem okB_398 : OKB 398 := OKB.of (by decide +kernel)
set_option maxRecDepth 100000 in
theorem okM_398 : OM 398 := ⟨rfl, by decide +kernel⟩
set_option maxRecDepth 100000 in
theorem okB_400 : OKB 400 := OKB.of (by decide +kernel)
set_option maxRecDepth 100000 in
theorem okM_400 : OM 400 := ⟨rfl, by decide +kernel⟩
set_option maxRecDepth 100000 in
theorem okB_401 : OKB 401 := OKB.of (by decide +kernel)
set_option maxRecDepth 100000 in
theorem okM_401 : OM 401 := ⟨rfl, by decide +kernel⟩
set_option maxRecDepth 100000 in
theorem okB_404 : OKB 404 := OKB.of (by decide +kernel)
set_option maxRecDepth 100000 in
theorem okM_404 : OM 404 := ⟨rfl, by decide +kernel⟩
set_option maxRecDepth 100000 in
theorem okB_405 : OKB 405 := OKB.of (by decide +kernel)
set_option maxRecDepth 100000 in
theorem okM_405 : OM 405 := ⟨rfl, by decide +kernel⟩
set_option maxRecDepth 100000 in
theorem okB_406 : OKB 406 := OKB.of (by decide +kernel)
set_option maxRecDepth 100000 in
theorem okM_406 : OM 406 := ⟨rfl, by decide +kernel⟩
set_option maxRecDepth 100000 in
theorem okB_407 : OKB 407 := OKB.of (by decide +kernel)
set_option maxRecDepth 100000 in
theorem okM_407 : OM 407 := ⟨rfl, by decide +kernel⟩
set_option maxRecDepth 100000 in
theorem okB_408 : OKB 408 := OKB.of (by decide +kernel)
set_option maxRecDepth 100000 in
theorem okM_408 : OM 408 := ⟨rfl, by decide +kernel⟩
set_option maxRecDepth 100000 in
theorem okB_409 : OKB 409 := OKB.of (by decide +kernel)
set_option maxRecDepth 100000 in
theorem okM_409 : OM 409 := ⟨rfl, by decide +kernel⟩
set_option maxRecDepth 100000 in
theorem okB_411 : OKB 411 := OKB.of (by decide +kernel)
set_option maxRecDepth 100000 in
theorem okM_411 : OM 411 := ⟨rfl, by decide +kernel⟩
set_option maxRecDepth 100000 in
theorem okB_412 : OKB 412 := OKB.of (by decide +kernel)
set_option maxRecDepth 100000 in
theorem okM_412 : OM 412 := ⟨rfl, by decide +kernel⟩
set_option maxRecDepth 100000 in
theorem okB_414 : OKB 414 := OKB.of (by decide +kernel)
set_option maxRecDepth 100000 in
theorem okM_414 : OM 414 := ⟨rfl, by decide +kernel⟩
set_option maxRecDepth 100000 in
theorem okB_415 : OKB 415 := OKB.of (by decide +kernel)
set_option maxRecDepth 100000 in
theorem okM_415 : OM 415 := ⟨rfl, by decide +kernel⟩
set_option maxRecDepth 100000 in
theorem okB_416 : OKB 416 := OKB.of (by decide +kernel)
set_option maxRecDepth 100000 in
theorem okM_416 : OM 416 := ⟨rfl, by decide +kernel⟩
set_option maxRecDepth 100000 in
theorem okB_417 : OKB 417 := OKB.of (by decide +kernel)
set_option maxRecDepth 100000 in
theorem okM_417 : OM 417 := ⟨rfl, by decide +kernel⟩
set_option maxRecDepth 100000 in
theorem okB_418 : OKB 418 := OKB.of (by decide +kernel)
set_option maxRecDepth 100000 in
theorem okM_418 : OM 418 := ⟨rfl, by decide +kernel⟩
set_option maxRecDepth 100000 in
theorem okB_419 : OKB 419 := OKB.of (by decide +kernel)
set_option maxRecDepth 100000 in
theorem okM_419 : OM 419 := ⟨rfl, by decide +kernel⟩
set_option maxRecDepth 100000 in
theorem okB_420 : OKB 420 := OKB.of (by decide +kernel)
set_option maxRecDepth 100000 in
theorem okM_420 : OM 420 := ⟨rfl, by decide +kernel⟩
set_option maxRecDepth 100000 in
theorem okB_422 : OKB 422 := OKB.of (by decide +kernel)
set_option maxRecDepth 100000 in
theorem okM_422 : OM 422 := ⟨rfl, by decide +kernel⟩
set_option maxRecDepth 100000 in
theorem okB_423 : OKB 423 := OKB.of (by decide +kernel)
set_option maxRecDepth 100000 in
theorem okM_423 : OM 423 := ⟨rfl, by decide +kernel⟩
set_option maxRecDepth 100000 in
theorem okB_424 : OKB 424 := OKB.of (by decide +kernel)
set_option maxRecDepth 100000 in
theorem okM_424 : OM 424 := ⟨rfl, by decide +kernel⟩
set_option maxRecDepth 100000 in
theorem okB_425 : OKB 425 := OKB.of (by decide +kernel)
set_option maxRecDepth 100000 in
theorem okM_425 : OM 425 := ⟨rfl, by decide +kernel⟩
set_option maxRecDepth 100000 in
theorem okB_426 : OKB 426 := OKB.of (by decide +kernel)
set_option maxRecDepth 100000 in
theorem okM_426 : OM 426 := ⟨rfl, by decide +kernel⟩
set_option maxRecDepth 100000 in
theorem okB_427 : OKB 427 := OKB.of (by decide +kernel)
set_option maxRecDepth 100000 in
theorem okM_427 : OM 427 := ⟨rfl, by decide +kernel⟩
set_option maxRecDepth 100000 in
theorem okB_428 : OKB 428 := OKB.of (by decide +kernel)
set_option maxRecDepth 100000 in
theorem okM_428 : OM 428 := ⟨rfl, by decide +kernel⟩
set_option maxRecDepth 100000 in
theorem okB_429 : OKB 429 := OKB.of (by decide +kernel)
set_option maxRecDepth 100000 in
theorem okM_429 : OM 429 := ⟨rfl, by decide +kernel⟩
set_option maxRecDepth 100000 in
theorem okB_430 : OKB 430 := OKB.of (by decide +kernel)
set_option maxRecDepth 100000 in
theorem okM_430 : OM 430 := ⟨rfl, by decide +kernel⟩
set_option maxRecDepth 100000 in
theorem okB_431 : OKB 431 := OKB.of (by decide +kernel)
set_option maxRecDepth 100000 in
theorem okM_431 : OM 431 := ⟨rfl, by decide +kernel⟩
set_option maxRecDepth 100000 in
theorem okB_432 : OKB 432 := OKB.of (by decide +kernel)
set_option maxRecDepth 100000 in
theorem okM_432 : OM 432 := ⟨rfl, by decide +kernel⟩
set_option maxRecDepth 100000 in
theorem okB_433 : OKB 433 := OKB.of (by decide +kernel)
set_option maxRecDepth 100000 in
theorem okM_433 : OM 433 := ⟨rfl, by decide +kernel⟩
set_option maxRecDepth 100000 in
theorem okB_434 : OKB 434 := OKB.of (by decide +kernel)
set_option maxRecDepth 100000 in
theorem okM_434 : OM 434 := ⟨rfl, by decide +kernel⟩
set_option maxRecDepth 100000 in
theorem okB_436 : OKB 436 := OKB.of (by decide +kernel)
set_option maxRecDepth 100000 in
theorem okM_436 : OM 436 := ⟨rfl, by decide +kernel⟩
set_option maxRecDepth 100000 in
theorem okB_437 : OKB 437 := OKB.of (by decide +kernel)
set_option maxRecDepth 100000 in
theorem okM_437 : OM 437 := ⟨rfl, by decide +kernel⟩
set_option maxRecDepth 100000 in
theorem okB_438 : OKB 438 := OKB.of (by decide +kernel)
set_option maxRecDepth 100000 in
theorem okM_438 : OM 438 := ⟨rfl, by decide +kernel⟩
set_option maxRecDepth 100000 in
theorem okB_439 : OKB 439 := OKB.of (by decide +kernel)
set_option maxRecDepth 100000 in
theorem okM_439 : OM 439 := ⟨rfl, by decide +kernel⟩
set_option maxRecDepth 100000 in
theorem okB_441 : OKB 441 := OKB.of (by decide +kernel)
set_option maxRecDepth 100000 in
theorem okM_441 : OM 441 := ⟨rfl, by decide +kernel⟩
set_option maxRecDepth 100000 in
theorem okB_442 : OKB 442 := OKB.of (by decide +kernel)
set_option maxRecDepth 100000 in
theorem okM_442 : OM 442 := ⟨rfl, by decide +kernel⟩
set_option maxRecDepth 100000 in
theorem okB_443 : OKB 443 := OKB.of (by decide +kernel)
set_option maxRecDepth 100000 in
theorem okM_443 : OM 443 := ⟨rfl, by decide +kernel⟩
set_option maxRecDepth 100000 in
theorem okB_444 : OKB 444 := OKB.of (by decide +kernel)
set_option maxRecDepth 100000 in
theorem okM_444 : OM 444 := ⟨rfl, by decide +kernel⟩
