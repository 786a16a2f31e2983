theorem dL_law_216 : decode cL_law 216 = .ok (.aload_n 1, 1) := by decide +kernel
theorem dL_law_217 : decode cL_law 217 = .ok (.aload_n 0, 1) := by decide +kernel
theorem dL_law_218 : decode cL_law 218 = .ok (.iload_n 3, 1) := by decide +kernel
theorem dL_law_219 : decode cL_law 219 = .ok (.iconst 1, 1) := by decide +kernel
theorem dL_law_220 : decode cL_law 220 = .ok (.iadd, 1) := by decide +kernel
theorem dL_law_221 : decode cL_law 221 = .ok (.iaload, 1) := by decide +kernel
theorem dL_law_222 : decode cL_law 222 = .ok (.aload_n 0, 1) := by decide +kernel
theorem dL_law_223 : decode cL_law 223 = .ok (.iload_n 3, 1) := by decide +kernel
theorem dL_law_224 : decode cL_law 224 = .ok (.iconst 2, 1) := by decide +kernel
theorem dL_law_225 : decode cL_law 225 = .ok (.iadd, 1) := by decide +kernel
theorem dL_law_226 : decode cL_law 226 = .ok (.iaload, 1) := by decide +kernel
theorem dL_law_227 : decode cL_law 227 = .ok (.aload_n 0, 1) := by decide +kernel
theorem dL_law_228 : decode cL_law 228 = .ok (.iload_n 3, 1) := by decide +kernel
theorem dL_law_229 : decode cL_law 229 = .ok (.iconst 3, 1) := by decide +kernel
theorem dL_law_230 : decode cL_law 230 = .ok (.iadd, 1) := by decide +kernel
theorem dL_law_231 : decode cL_law 231 = .ok (.iaload, 1) := by decide +kernel
theorem dL_law_232 : decode cL_law 232 = .ok (.invokevirtual 13, 3) := by decide +kernel
theorem dL_law_235 : decode cL_law 235 = .ok (.aload_n 2, 1) := by decide +kernel
theorem dL_law_236 : decode cL_law 236 = .ok (.aload_n 0, 1) := by decide +kernel
theorem dL_law_237 : decode cL_law 237 = .ok (.iload_n 3, 1) := by decide +kernel
theorem dL_law_238 : decode cL_law 238 = .ok (.iconst 1, 1) := by decide +kernel
theorem dL_law_239 : decode cL_law 239 = .ok (.iadd, 1) := by decide +kernel
theorem dL_law_240 : decode cL_law 240 = .ok (.iaload, 1) := by decide +kernel
theorem dL_law_241 : decode cL_law 241 = .ok (.aload_n 0, 1) := by decide +kernel
theorem dL_law_242 : decode cL_law 242 = .ok (.iload_n 3, 1) := by decide +kernel
theorem dL_law_243 : decode cL_law 243 = .ok (.iconst 2, 1) := by decide +kernel
theorem dL_law_244 : decode cL_law 244 = .ok (.iadd, 1) := by decide +kernel
theorem dL_law_245 : decode cL_law 245 = .ok (.iaload, 1) := by decide +kernel
theorem dL_law_246 : decode cL_law 246 = .ok (.aload_n 0, 1) := by decide +kernel
theorem dL_law_247 : decode cL_law 247 = .ok (.iload_n 3, 1) := by decide +kernel
theorem dL_law_248 : decode cL_law 248 = .ok (.iconst 3, 1) := by decide +kernel
theorem dL_law_249 : decode cL_law 249 = .ok (.iadd, 1) := by decide +kernel
theorem dL_law_250 : decode cL_law 250 = .ok (.iaload, 1) := by decide +kernel
theorem dL_law_251 : decode cL_law 251 = .ok (.invokevirtual 17, 3) := by decide +kernel
theorem dL_law_254 : decode cL_law 254 = .ok (.if_icmp .eq 1389, 3) := by decide +kernel
theorem dL_law_257 : decode cL_law 257 = .ok (.iconst 0, 1) := by decide +kernel
theorem dL_law_258 : decode cL_law 258 = .ok (.ireturn, 1) := by decide +kernel
set_option maxRecDepth 20000 in
set_option maxHeartbeats 4000000 in
theorem C_law_0 {nm : String} (K : xK) (L : xL) (k : Int32 → xH → Option (Int32 × xH)) (a0 a1 a2 : Nat) (hk : ∀ (a3 : Int32) (h : xH), Sim K L cL_law RL nm 4 8 (fun q : Int32 × xH => q.2) (xRz cL_law) 1643 [(0, .ref a0), (1, .ref a1), (2, .ref a2), (3, .int a3)] [] h (k a3 h)) (a3 : Int32) (h : xH) : Sim K L cL_law RL nm 4 8 (fun q : Int32 × xH => q.2) (xRz cL_law) 216 [(0, .ref a0), (1, .ref a1), (2, .ref a2), (3, .int a3)] [] h (f_law_c0 k a0 a1 a2 a3 h) := by
  unfold f_law_c0
  refine S_aload_n (pc := 216) 1 rfl dL_law_216 rfl ?_
  refine S_aload_n (pc := 217) 0 rfl dL_law_217 rfl ?_
  refine S_iload_n (pc := 218) 3 rfl dL_law_218 rfl ?_
  refine S_iconst (pc := 219) dL_law_219 ic_1 ?_
  refine S_iadd (pc := 220) dL_law_220 ?_
  refine S_aI (pc := 221) dL_law_221 (fun v1 => ?_)
  refine S_aload_n (pc := 222) 0 rfl dL_law_222 rfl ?_
  refine S_iload_n (pc := 223) 3 rfl dL_law_223 rfl ?_
  refine S_iconst (pc := 224) dL_law_224 ic_2 ?_
  refine S_iadd (pc := 225) dL_law_225 ?_
  refine S_aI (pc := 226) dL_law_226 (fun v2 => ?_)
  refine S_aload_n (pc := 227) 0 rfl dL_law_227 rfl ?_
  refine S_iload_n (pc := 228) 3 rfl dL_law_228 rfl ?_
  refine S_iconst (pc := 229) dL_law_229 ic_3 ?_
  refine S_iadd (pc := 230) dL_law_230 ?_
  refine S_aI (pc := 231) dL_law_231 (fun v3 => ?_)
  refine S_call_i (pc := 232) (rest := []) (fun q hq => (x_if hq).elim (fun z => R_V (av := [.int v1, .int v2, .int v3]) (q := (RX11, TX11, 12)) (M_X11_row _ a1 v1 v2 v3 h z.2) z.1 rfl wd_229 wd_226 wd_227 wd_44 wd_228 ⟨rfl, hd_X11_row⟩ ⟨Nat.le_of_ble_eq_true rfl, Nat.le_of_ble_eq_true rfl⟩ rfl (Nat.le_of_ble_eq_true rfl) dL_law_232) (fun hq => (by cases hq))) (fun _ h => absurd h List.not_mem_nil) (fun q4 => ?_)
  refine S_aload_n (pc := 235) 2 rfl dL_law_235 rfl ?_
  refine S_aload_n (pc := 236) 0 rfl dL_law_236 rfl ?_
  refine S_iload_n (pc := 237) 3 rfl dL_law_237 rfl ?_
  refine S_iconst (pc := 238) dL_law_238 ic_1 ?_
  refine S_iadd (pc := 239) dL_law_239 ?_
  refine S_aI (pc := 240) dL_law_240 (fun v5 => ?_)
  refine S_aload_n (pc := 241) 0 rfl dL_law_241 rfl ?_
  refine S_iload_n (pc := 242) 3 rfl dL_law_242 rfl ?_
  refine S_iconst (pc := 243) dL_law_243 ic_2 ?_
  refine S_iadd (pc := 244) dL_law_244 ?_
  refine S_aI (pc := 245) dL_law_245 (fun v6 => ?_)
  refine S_aload_n (pc := 246) 0 rfl dL_law_246 rfl ?_
  refine S_iload_n (pc := 247) 3 rfl dL_law_247 rfl ?_
  refine S_iconst (pc := 248) dL_law_248 ic_3 ?_
  refine S_iadd (pc := 249) dL_law_249 ?_
  refine S_aI (pc := 250) dL_law_250 (fun v7 => ?_)
  refine S_call_i (pc := 251) (rest := [.int q4.1]) (fun q hq => (x_if hq).elim (fun z => R_V (av := [.int v5, .int v6, .int v7]) (q := (RX12, TX12, 28)) (M_X12_row _ a2 v5 v6 v7 q4.2 z.2) z.1 rfl wd_896 wd_893 wd_894 wd_50 wd_895 ⟨rfl, hd_X12_row⟩ ⟨Nat.le_of_ble_eq_true rfl, Nat.le_of_ble_eq_true rfl⟩ rfl (Nat.le_of_ble_eq_true rfl) dL_law_251) (fun hq => (by cases hq))) (fun _ h => List.mem_cons_of_mem _ (List.mem_cons_of_mem _ (List.mem_cons_of_mem _ (List.mem_cons_of_mem _ (h))))) (fun q8 => ?_)
  refine S_icmp_eq (pc := 254) (tgt := 1643) dL_law_254 (by decide) ?_ ?_
  · refine S_sub [0, 1, 2, 3] rfl ?_
    exact hk a3 q8.2
  · refine S_iconst (pc := 257) dL_law_257 ic_0 ?_
    exact Sim.fin ⟨dL_law_258, rfl, rfl, x_nar (Or.inl rfl)⟩ rfl
theorem dL_law_259 : decode cL_law 259 = .ok (.aload_n 1, 1) := by decide +kernel
theorem dL_law_260 : decode cL_law 260 = .ok (.aload_n 0, 1) := by decide +kernel
theorem dL_law_261 : decode cL_law 261 = .ok (.iload_n 3, 1) := by decide +kernel
theorem dL_law_262 : decode cL_law 262 = .ok (.iconst 1, 1) := by decide +kernel
theorem dL_law_263 : decode cL_law 263 = .ok (.iadd, 1) := by decide +kernel
theorem dL_law_264 : decode cL_law 264 = .ok (.iaload, 1) := by decide +kernel
theorem dL_law_265 : decode cL_law 265 = .ok (.aload_n 0, 1) := by decide +kernel
theorem dL_law_266 : decode cL_law 266 = .ok (.iload_n 3, 1) := by decide +kernel
theorem dL_law_267 : decode cL_law 267 = .ok (.iconst 2, 1) := by decide +kernel
theorem dL_law_268 : decode cL_law 268 = .ok (.iadd, 1) := by decide +kernel
theorem dL_law_269 : decode cL_law 269 = .ok (.iaload, 1) := by decide +kernel
theorem dL_law_270 : decode cL_law 270 = .ok (.aload_n 0, 1) := by decide +kernel
theorem dL_law_271 : decode cL_law 271 = .ok (.iload_n 3, 1) := by decide +kernel
theorem dL_law_272 : decode cL_law 272 = .ok (.iconst 3, 1) := by decide +kernel
theorem dL_law_273 : decode cL_law 273 = .ok (.iadd, 1) := by decide +kernel
theorem dL_law_274 : decode cL_law 274 = .ok (.iaload, 1) := by decide +kernel
theorem dL_law_275 : decode cL_law 275 = .ok (.invokevirtual 18, 3) := by decide +kernel
theorem dL_law_278 : decode cL_law 278 = .ok (.aload_n 2, 1) := by decide +kernel
theorem dL_law_279 : decode cL_law 279 = .ok (.aload_n 0, 1) := by decide +kernel
theorem dL_law_280 : decode cL_law 280 = .ok (.iload_n 3, 1) := by decide +kernel
theorem dL_law_281 : decode cL_law 281 = .ok (.iconst 1, 1) := by decide +kernel
theorem dL_law_282 : decode cL_law 282 = .ok (.iadd, 1) := by decide +kernel
theorem dL_law_283 : decode cL_law 283 = .ok (.iaload, 1) := by decide +kernel
theorem dL_law_284 : decode cL_law 284 = .ok (.aload_n 0, 1) := by decide +kernel
theorem dL_law_285 : decode cL_law 285 = .ok (.iload_n 3, 1) := by decide +kernel
theorem dL_law_286 : decode cL_law 286 = .ok (.iconst 2, 1) := by decide +kernel
theorem dL_law_287 : decode cL_law 287 = .ok (.iadd, 1) := by decide +kernel
theorem dL_law_288 : decode cL_law 288 = .ok (.iaload, 1) := by decide +kernel
theorem dL_law_289 : decode cL_law 289 = .ok (.aload_n 0, 1) := by decide +kernel
theorem dL_law_290 : decode cL_law 290 = .ok (.iload_n 3, 1) := by decide +kernel
theorem dL_law_291 : decode cL_law 291 = .ok (.iconst 3, 1) := by decide +kernel
theorem dL_law_292 : decode cL_law 292 = .ok (.iadd, 1) := by decide +kernel
theorem dL_law_293 : decode cL_law 293 = .ok (.iaload, 1) := by decide +kernel
theorem dL_law_294 : decode cL_law 294 = .ok (.invokevirtual 21, 3) := by decide +kernel
theorem dL_law_297 : decode cL_law 297 = .ok (.if_icmp .eq 1346, 3) := by decide +kernel
theorem dL_law_300 : decode cL_law 300 = .ok (.iconst 0, 1) := by decide +kernel
theorem dL_law_301 : decode cL_law 301 = .ok (.ireturn, 1) := by decide +kernel
set_option maxRecDepth 20000 in
set_option maxHeartbeats 4000000 in
theorem C_law_1 {nm : String} (K : xK) (L : xL) (k : Int32 → xH → Option (Int32 × xH)) (a0 a1 a2 : Nat) (hk : ∀ (a3 : Int32) (h : xH), Sim K L cL_law RL nm 4 8 (fun q : Int32 × xH => q.2) (xRz cL_law) 1643 [(0, .ref a0), (1, .ref a1), (2, .ref a2), (3, .int a3)] [] h (k a3 h)) (a3 : Int32) (h : xH) : Sim K L cL_law RL nm 4 8 (fun q : Int32 × xH => q.2) (xRz cL_law) 259 [(0, .ref a0), (1, .ref a1), (2, .ref a2), (3, .int a3)] [] h (f_law_c1 k a0 a1 a2 a3 h) := by
  unfold f_law_c1
  refine S_aload_n (pc := 259) 1 rfl dL_law_259 rfl ?_
  refine S_aload_n (pc := 260) 0 rfl dL_law_260 rfl ?_
  refine S_iload_n (pc := 261) 3 rfl dL_law_261 rfl ?_
  refine S_iconst (pc := 262) dL_law_262 ic_1 ?_
  refine S_iadd (pc := 263) dL_law_263 ?_
  refine S_aI (pc := 264) dL_law_264 (fun v1 => ?_)
  refine S_aload_n (pc := 265) 0 rfl dL_law_265 rfl ?_
  refine S_iload_n (pc := 266) 3 rfl dL_law_266 rfl ?_
  refine S_iconst (pc := 267) dL_law_267 ic_2 ?_
  refine S_iadd (pc := 268) dL_law_268 ?_
  refine S_aI (pc := 269) dL_law_269 (fun v2 => ?_)
  refine S_aload_n (pc := 270) 0 rfl dL_law_270 rfl ?_
  refine S_iload_n (pc := 271) 3 rfl dL_law_271 rfl ?_
  refine S_iconst (pc := 272) dL_law_272 ic_3 ?_
  refine S_iadd (pc := 273) dL_law_273 ?_
  refine S_aI (pc := 274) dL_law_274 (fun v3 => ?_)
  refine S_call_i (pc := 275) (rest := []) (fun q hq => (x_if hq).elim (fun z => R_V (av := [.int v1, .int v2, .int v3]) (q := (RX11, TX11, 12)) (M_X11_set _ a1 v1 v2 v3 h z.2) z.1 rfl wd_253 wd_250 wd_251 wd_44 wd_252 ⟨rfl, hd_X11_set⟩ ⟨Nat.le_of_ble_eq_true rfl, Nat.le_of_ble_eq_true rfl⟩ rfl (Nat.le_of_ble_eq_true rfl) dL_law_275) (fun hq => (by cases hq))) (fun _ h => absurd h List.not_mem_nil) (fun q4 => ?_)
  refine S_aload_n (pc := 278) 2 rfl dL_law_278 rfl ?_
  refine S_aload_n (pc := 279) 0 rfl dL_law_279 rfl ?_
  refine S_iload_n (pc := 280) 3 rfl dL_law_280 rfl ?_
  refine S_iconst (pc := 281) dL_law_281 ic_1 ?_
  refine S_iadd (pc := 282) dL_law_282 ?_
  refine S_aI (pc := 283) dL_law_283 (fun v5 => ?_)
  refine S_aload_n (pc := 284) 0 rfl dL_law_284 rfl ?_
  refine S_iload_n (pc := 285) 3 rfl dL_law_285 rfl ?_
  refine S_iconst (pc := 286) dL_law_286 ic_2 ?_
  refine S_iadd (pc := 287) dL_law_287 ?_
  refine S_aI (pc := 288) dL_law_288 (fun v6 => ?_)
  refine S_aload_n (pc := 289) 0 rfl dL_law_289 rfl ?_
  refine S_iload_n (pc := 290) 3 rfl dL_law_290 rfl ?_
  refine S_iconst (pc := 291) dL_law_291 ic_3 ?_
  refine S_iadd (pc := 292) dL_law_292 ?_
  refine S_aI (pc := 293) dL_law_293 (fun v7 => ?_)
  refine S_call_i (pc := 294) (rest := [.int q4.1]) (fun q hq => (x_if hq).elim (fun z => R_V (av := [.int v5, .int v6, .int v7]) (q := (RX12, TX12, 28)) (M_X12_set _ a2 v5 v6 v7 q4.2 z.2) z.1 rfl wd_916 wd_913 wd_914 wd_50 wd_915 ⟨rfl, hd_X12_set⟩ ⟨Nat.le_of_ble_eq_true rfl, Nat.le_of_ble_eq_true rfl⟩ rfl (Nat.le_of_ble_eq_true rfl) dL_law_294) (fun hq => (by cases hq))) (fun _ h => List.mem_cons_of_mem _ (List.mem_cons_of_mem _ (List.mem_cons_of_mem _ (List.mem_cons_of_mem _ (h))))) (fun q8 => ?_)
  refine S_icmp_eq (pc := 297) (tgt := 1643) dL_law_297 (by decide) ?_ ?_
  · refine S_sub [0, 1, 2, 3] rfl ?_
    exact hk a3 q8.2
  · refine S_iconst (pc := 300) dL_law_300 ic_0 ?_
    exact Sim.fin ⟨dL_law_301, rfl, rfl, x_nar (Or.inl rfl)⟩ rfl
theorem dL_law_302 : decode cL_law 302 = .ok (.aload_n 1, 1) := by decide +kernel
theorem dL_law_303 : decode cL_law 303 = .ok (.aload_n 0, 1) := by decide +kernel
theorem dL_law_304 : decode cL_law 304 = .ok (.iload_n 3, 1) := by decide +kernel
theorem dL_law_305 : decode cL_law 305 = .ok (.iconst 1, 1) := by decide +kernel
theorem dL_law_306 : decode cL_law 306 = .ok (.iadd, 1) := by decide +kernel
theorem dL_law_307 : decode cL_law 307 = .ok (.iaload, 1) := by decide +kernel
theorem dL_law_308 : decode cL_law 308 = .ok (.aload_n 0, 1) := by decide +kernel
theorem dL_law_309 : decode cL_law 309 = .ok (.iload_n 3, 1) := by decide +kernel
theorem dL_law_310 : decode cL_law 310 = .ok (.iconst 2, 1) := by decide +kernel
theorem dL_law_311 : decode cL_law 311 = .ok (.iadd, 1) := by decide +kernel
theorem dL_law_312 : decode cL_law 312 = .ok (.iaload, 1) := by decide +kernel
theorem dL_law_313 : decode cL_law 313 = .ok (.aload_n 0, 1) := by decide +kernel
theorem dL_law_314 : decode cL_law 314 = .ok (.iload_n 3, 1) := by decide +kernel
theorem dL_law_315 : decode cL_law 315 = .ok (.iconst 3, 1) := by decide +kernel
theorem dL_law_316 : decode cL_law 316 = .ok (.iadd, 1) := by decide +kernel
theorem dL_law_317 : decode cL_law 317 = .ok (.iaload, 1) := by decide +kernel
theorem dL_law_318 : decode cL_law 318 = .ok (.aload_n 0, 1) := by decide +kernel
theorem dL_law_319 : decode cL_law 319 = .ok (.iload_n 3, 1) := by decide +kernel
theorem dL_law_320 : decode cL_law 320 = .ok (.iconst 4, 1) := by decide +kernel
theorem dL_law_321 : decode cL_law 321 = .ok (.iadd, 1) := by decide +kernel
theorem dL_law_322 : decode cL_law 322 = .ok (.iaload, 1) := by decide +kernel
theorem dL_law_323 : decode cL_law 323 = .ok (.aload_n 0, 1) := by decide +kernel
theorem dL_law_324 : decode cL_law 324 = .ok (.iload_n 3, 1) := by decide +kernel
theorem dL_law_325 : decode cL_law 325 = .ok (.iconst 5, 1) := by decide +kernel
theorem dL_law_326 : decode cL_law 326 = .ok (.iadd, 1) := by decide +kernel
theorem dL_law_327 : decode cL_law 327 = .ok (.iaload, 1) := by decide +kernel
theorem dL_law_328 : decode cL_law 328 = .ok (.invokevirtual 22, 3) := by decide +kernel
theorem dL_law_331 : decode cL_law 331 = .ok (.aload_n 2, 1) := by decide +kernel
theorem dL_law_332 : decode cL_law 332 = .ok (.aload_n 0, 1) := by decide +kernel
theorem dL_law_333 : decode cL_law 333 = .ok (.iload_n 3, 1) := by decide +kernel
theorem dL_law_334 : decode cL_law 334 = .ok (.iconst 1, 1) := by decide +kernel
theorem dL_law_335 : decode cL_law 335 = .ok (.iadd, 1) := by decide +kernel
theorem dL_law_336 : decode cL_law 336 = .ok (.iaload, 1) := by decide +kernel
theorem dL_law_337 : decode cL_law 337 = .ok (.aload_n 0, 1) := by decide +kernel
theorem dL_law_338 : decode cL_law 338 = .ok (.iload_n 3, 1) := by decide +kernel
theorem dL_law_339 : decode cL_law 339 = .ok (.iconst 2, 1) := by decide +kernel
theorem dL_law_340 : decode cL_law 340 = .ok (.iadd, 1) := by decide +kernel
theorem dL_law_341 : decode cL_law 341 = .ok (.iaload, 1) := by decide +kernel
theorem dL_law_342 : decode cL_law 342 = .ok (.aload_n 0, 1) := by decide +kernel
theorem dL_law_343 : decode cL_law 343 = .ok (.iload_n 3, 1) := by decide +kernel
theorem dL_law_344 : decode cL_law 344 = .ok (.iconst 3, 1) := by decide +kernel
theorem dL_law_345 : decode cL_law 345 = .ok (.iadd, 1) := by decide +kernel
theorem dL_law_346 : decode cL_law 346 = .ok (.iaload, 1) := by decide +kernel
theorem dL_law_347 : decode cL_law 347 = .ok (.aload_n 0, 1) := by decide +kernel
theorem dL_law_348 : decode cL_law 348 = .ok (.iload_n 3, 1) := by decide +kernel
theorem dL_law_349 : decode cL_law 349 = .ok (.iconst 4, 1) := by decide +kernel
theorem dL_law_350 : decode cL_law 350 = .ok (.iadd, 1) := by decide +kernel
theorem dL_law_351 : decode cL_law 351 = .ok (.iaload, 1) := by decide +kernel
theorem dL_law_352 : decode cL_law 352 = .ok (.aload_n 0, 1) := by decide +kernel
theorem dL_law_353 : decode cL_law 353 = .ok (.iload_n 3, 1) := by decide +kernel
theorem dL_law_354 : decode cL_law 354 = .ok (.iconst 5, 1) := by decide +kernel
theorem dL_law_355 : decode cL_law 355 = .ok (.iadd, 1) := by decide +kernel
theorem dL_law_356 : decode cL_law 356 = .ok (.iaload, 1) := by decide +kernel
theorem dL_law_357 : decode cL_law 357 = .ok (.invokevirtual 26, 3) := by decide +kernel
theorem dL_law_360 : decode cL_law 360 = .ok (.if_icmp .eq 1283, 3) := by decide +kernel
theorem dL_law_363 : decode cL_law 363 = .ok (.iconst 0, 1) := by decide +kernel
theorem dL_law_364 : decode cL_law 364 = .ok (.ireturn, 1) := by decide +kernel
set_option maxRecDepth 20000 in
set_option maxHeartbeats 4000000 in
theorem C_law_2 {nm : String} (K : xK) (L : xL) (k : Int32 → xH → Option (Int32 × xH)) (a0 a1 a2 : Nat) (hk : ∀ (a3 : Int32) (h : xH), Sim K L cL_law RL nm 4 8 (fun q : Int32 × xH => q.2) (xRz cL_law) 1643 [(0, .ref a0), (1, .ref a1), (2, .ref a2), (3, .int a3)] [] h (k a3 h)) (a3 : Int32) (h : xH) : Sim K L cL_law RL nm 4 8 (fun q : Int32 × xH => q.2) (xRz cL_law) 302 [(0, .ref a0), (1, .ref a1), (2, .ref a2), (3, .int a3)] [] h (f_law_c2 k a0 a1 a2 a3 h) := by
  unfold f_law_c2
  refine S_aload_n (pc := 302) 1 rfl dL_law_302 rfl ?_
  refine S_aload_n (pc := 303) 0 rfl dL_law_303 rfl ?_
  refine S_iload_n (pc := 304) 3 rfl dL_law_304 rfl ?_
  refine S_iconst (pc := 305) dL_law_305 ic_1 ?_
  refine S_iadd (pc := 306) dL_law_306 ?_
  refine S_aI (pc := 307) dL_law_307 (fun v1 => ?_)
  refine S_aload_n (pc := 308) 0 rfl dL_law_308 rfl ?_
  refine S_iload_n (pc := 309) 3 rfl dL_law_309 rfl ?_
  refine S_iconst (pc := 310) dL_law_310 ic_2 ?_
  refine S_iadd (pc := 311) dL_law_311 ?_
  refine S_aI (pc := 312) dL_law_312 (fun v2 => ?_)
  refine S_aload_n (pc := 313) 0 rfl dL_law_313 rfl ?_
  refine S_iload_n (pc := 314) 3 rfl dL_law_314 rfl ?_
  refine S_iconst (pc := 315) dL_law_315 ic_3 ?_
  refine S_iadd (pc := 316) dL_law_316 ?_
  refine S_aI (pc := 317) dL_law_317 (fun v3 => ?_)
  refine S_aload_n (pc := 318) 0 rfl dL_law_318 rfl ?_
  refine S_iload_n (pc := 319) 3 rfl dL_law_319 rfl ?_
  refine S_iconst (pc := 320) dL_law_320 ic_4 ?_
  refine S_iadd (pc := 321) dL_law_321 ?_
  refine S_aI (pc := 322) dL_law_322 (fun v4 => ?_)
  refine S_aload_n (pc := 323) 0 rfl dL_law_323 rfl ?_
  refine S_iload_n (pc := 324) 3 rfl dL_law_324 rfl ?_
  refine S_iconst (pc := 325) dL_law_325 ic_5 ?_
  refine S_iadd (pc := 326) dL_law_326 ?_
  refine S_aI (pc := 327) dL_law_327 (fun v5 => ?_)
  refine S_call_i (pc := 328) (rest := []) (fun q hq => (x_if hq).elim (fun z => R_V (av := [.int v1, .int v2, .int v3, .int v4, .int v5]) (q := (RX11, TX11, 12)) (M_X11_copy _ a1 v1 v2 v3 v4 v5 h z.2) z.1 rfl wd_261 wd_258 wd_259 wd_44 wd_260 ⟨rfl, hd_X11_copy⟩ ⟨Nat.le_of_ble_eq_true rfl, Nat.le_of_ble_eq_true rfl⟩ rfl (Nat.le_of_ble_eq_true rfl) dL_law_328) (fun hq => (by cases hq))) (fun _ h => absurd h List.not_mem_nil) (fun q6 => ?_)
  refine S_aload_n (pc := 331) 2 rfl dL_law_331 rfl ?_
  refine S_aload_n (pc := 332) 0 rfl dL_law_332 rfl ?_
  refine S_iload_n (pc := 333) 3 rfl dL_law_333 rfl ?_
  refine S_iconst (pc := 334) dL_law_334 ic_1 ?_
  refine S_iadd (pc := 335) dL_law_335 ?_
  refine S_aI (pc := 336) dL_law_336 (fun v7 => ?_)
  refine S_aload_n (pc := 337) 0 rfl dL_law_337 rfl ?_
  refine S_iload_n (pc := 338) 3 rfl dL_law_338 rfl ?_
  refine S_iconst (pc := 339) dL_law_339 ic_2 ?_
  refine S_iadd (pc := 340) dL_law_340 ?_
  refine S_aI (pc := 341) dL_law_341 (fun v8 => ?_)
  refine S_aload_n (pc := 342) 0 rfl dL_law_342 rfl ?_
  refine S_iload_n (pc := 343) 3 rfl dL_law_343 rfl ?_
  refine S_iconst (pc := 344) dL_law_344 ic_3 ?_
  refine S_iadd (pc := 345) dL_law_345 ?_
  refine S_aI (pc := 346) dL_law_346 (fun v9 => ?_)
  refine S_aload_n (pc := 347) 0 rfl dL_law_347 rfl ?_
  refine S_iload_n (pc := 348) 3 rfl dL_law_348 rfl ?_
  refine S_iconst (pc := 349) dL_law_349 ic_4 ?_
  refine S_iadd (pc := 350) dL_law_350 ?_
  refine S_aI (pc := 351) dL_law_351 (fun v10 => ?_)
  refine S_aload_n (pc := 352) 0 rfl dL_law_352 rfl ?_
  refine S_iload_n (pc := 353) 3 rfl dL_law_353 rfl ?_
  refine S_iconst (pc := 354) dL_law_354 ic_5 ?_
  refine S_iadd (pc := 355) dL_law_355 ?_
  refine S_aI (pc := 356) dL_law_356 (fun v11 => ?_)
  refine S_call_i (pc := 357) (rest := [.int q6.1]) (fun q hq => (x_if hq).elim (fun z => R_V (av := [.int v7, .int v8, .int v9, .int v10, .int v11]) (q := (RX12, TX12, 28)) (M_X12_copy _ a2 v7 v8 v9 v10 v11 q6.2 z.2) z.1 rfl wd_927 wd_924 wd_925 wd_50 wd_926 ⟨rfl, hd_X12_copy⟩ ⟨Nat.le_of_ble_eq_true rfl, Nat.le_of_ble_eq_true rfl⟩ rfl (Nat.le_of_ble_eq_true rfl) dL_law_357) (fun hq => (by cases hq))) (fun _ h => List.mem_cons_of_mem _ (List.mem_cons_of_mem _ (List.mem_cons_of_mem _ (List.mem_cons_of_mem _ (List.mem_cons_of_mem _ (List.mem_cons_of_mem _ (h))))))) (fun q12 => ?_)
  refine S_icmp_eq (pc := 360) (tgt := 1643) dL_law_360 (by decide) ?_ ?_
  · refine S_sub [0, 1, 2, 3] rfl ?_
    exact hk a3 q12.2
  · refine S_iconst (pc := 363) dL_law_363 ic_0 ?_
    exact Sim.fin ⟨dL_law_364, rfl, rfl, x_nar (Or.inl rfl)⟩ rfl
theorem dL_law_365 : decode cL_law 365 = .ok (.aload_n 1, 1) := by decide +kernel
theorem dL_law_366 : decode cL_law 366 = .ok (.aload_n 0, 1) := by decide +kernel
theorem dL_law_367 : decode cL_law 367 = .ok (.iload_n 3, 1) := by decide +kernel
theorem dL_law_368 : decode cL_law 368 = .ok (.iconst 1, 1) := by decide +kernel
theorem dL_law_369 : decode cL_law 369 = .ok (.iadd, 1) := by decide +kernel
theorem dL_law_370 : decode cL_law 370 = .ok (.iaload, 1) := by decide +kernel
theorem dL_law_371 : decode cL_law 371 = .ok (.invokevirtual 27, 3) := by decide +kernel
theorem dL_law_374 : decode cL_law 374 = .ok (.aload_n 2, 1) := by decide +kernel
theorem dL_law_375 : decode cL_law 375 = .ok (.aload_n 0, 1) := by decide +kernel
theorem dL_law_376 : decode cL_law 376 = .ok (.iload_n 3, 1) := by decide +kernel
theorem dL_law_377 : decode cL_law 377 = .ok (.iconst 1, 1) := by decide +kernel
theorem dL_law_378 : decode cL_law 378 = .ok (.iadd, 1) := by decide +kernel
theorem dL_law_379 : decode cL_law 379 = .ok (.iaload, 1) := by decide +kernel
theorem dL_law_380 : decode cL_law 380 = .ok (.invokevirtual 31, 3) := by decide +kernel
theorem dL_law_383 : decode cL_law 383 = .ok (.if_icmp .eq 1260, 3) := by decide +kernel
theorem dL_law_386 : decode cL_law 386 = .ok (.iconst 0, 1) := by decide +kernel
theorem dL_law_387 : decode cL_law 387 = .ok (.ireturn, 1) := by decide +kernel
set_option maxRecDepth 20000 in
set_option maxHeartbeats 4000000 in
theorem C_law_3 {nm : String} (K : xK) (L : xL) (k : Int32 → xH → Option (Int32 × xH)) (a0 a1 a2 : Nat) (hk : ∀ (a3 : Int32) (h : xH), Sim K L cL_law RL nm 4 8 (fun q : Int32 × xH => q.2) (xRz cL_law) 1643 [(0, .ref a0), (1, .ref a1), (2, .ref a2), (3, .int a3)] [] h (k a3 h)) (a3 : Int32) (h : xH) : Sim K L cL_law RL nm 4 8 (fun q : Int32 × xH => q.2) (xRz cL_law) 365 [(0, .ref a0), (1, .ref a1), (2, .ref a2), (3, .int a3)] [] h (f_law_c3 k a0 a1 a2 a3 h) := by
  unfold f_law_c3
  refine S_aload_n (pc := 365) 1 rfl dL_law_365 rfl ?_
  refine S_aload_n (pc := 366) 0 rfl dL_law_366 rfl ?_
  refine S_iload_n (pc := 367) 3 rfl dL_law_367 rfl ?_
  refine S_iconst (pc := 368) dL_law_368 ic_1 ?_
  refine S_iadd (pc := 369) dL_law_369 ?_
  refine S_aI (pc := 370) dL_law_370 (fun v1 => ?_)
  refine S_call_i (pc := 371) (rest := []) (fun q hq => (x_if hq).elim (fun z => R_V (av := [.int v1]) (q := (RX11, TX11, 12)) (M_X11_drop _ a1 v1 h z.2) z.1 rfl wd_272 wd_269 wd_270 wd_44 wd_271 ⟨rfl, hd_X11_drop⟩ ⟨Nat.le_of_ble_eq_true rfl, Nat.le_of_ble_eq_true rfl⟩ rfl (Nat.le_of_ble_eq_true rfl) dL_law_371) (fun hq => (by cases hq))) (fun _ h => absurd h List.not_mem_nil) (fun q2 => ?_)
  refine S_aload_n (pc := 374) 2 rfl dL_law_374 rfl ?_
  refine S_aload_n (pc := 375) 0 rfl dL_law_375 rfl ?_
  refine S_iload_n (pc := 376) 3 rfl dL_law_376 rfl ?_
  refine S_iconst (pc := 377) dL_law_377 ic_1 ?_
  refine S_iadd (pc := 378) dL_law_378 ?_
  refine S_aI (pc := 379) dL_law_379 (fun v3 => ?_)
  refine S_call_i (pc := 380) (rest := [.int q2.1]) (fun q hq => (x_if hq).elim (fun z => R_V (av := [.int v3]) (q := (RX12, TX12, 28)) (M_X12_drop _ a2 v3 q2.2 z.2) z.1 rfl wd_935 wd_932 wd_933 wd_50 wd_934 ⟨rfl, hd_X12_drop⟩ ⟨Nat.le_of_ble_eq_true rfl, Nat.le_of_ble_eq_true rfl⟩ rfl (Nat.le_of_ble_eq_true rfl) dL_law_380) (fun hq => (by cases hq))) (fun _ h => List.mem_cons_of_mem _ (List.mem_cons_of_mem _ (h))) (fun q4 => ?_)
  refine S_icmp_eq (pc := 383) (tgt := 1643) dL_law_383 (by decide) ?_ ?_
  · refine S_sub [0, 1, 2, 3] rfl ?_
    exact hk a3 q4.2
  · refine S_iconst (pc := 386) dL_law_386 ic_0 ?_
    exact Sim.fin ⟨dL_law_387, rfl, rfl, x_nar (Or.inl rfl)⟩ rfl
theorem dL_law_388 : decode cL_law 388 = .ok (.aload_n 1, 1) := by decide +kernel
theorem dL_law_389 : decode cL_law 389 = .ok (.aload_n 0, 1) := by decide +kernel
theorem dL_law_390 : decode cL_law 390 = .ok (.iload_n 3, 1) := by decide +kernel
theorem dL_law_391 : decode cL_law 391 = .ok (.iconst 1, 1) := by decide +kernel
theorem dL_law_392 : decode cL_law 392 = .ok (.iadd, 1) := by decide +kernel
theorem dL_law_393 : decode cL_law 393 = .ok (.iaload, 1) := by decide +kernel
theorem dL_law_394 : decode cL_law 394 = .ok (.invokevirtual 32, 3) := by decide +kernel
theorem dL_law_397 : decode cL_law 397 = .ok (.aload_n 2, 1) := by decide +kernel
theorem dL_law_398 : decode cL_law 398 = .ok (.aload_n 0, 1) := by decide +kernel
theorem dL_law_399 : decode cL_law 399 = .ok (.iload_n 3, 1) := by decide +kernel
theorem dL_law_400 : decode cL_law 400 = .ok (.iconst 1, 1) := by decide +kernel
theorem dL_law_401 : decode cL_law 401 = .ok (.iadd, 1) := by decide +kernel
theorem dL_law_402 : decode cL_law 402 = .ok (.iaload, 1) := by decide +kernel
theorem dL_law_403 : decode cL_law 403 = .ok (.invokevirtual 35, 3) := by decide +kernel
theorem dL_law_406 : decode cL_law 406 = .ok (.if_icmp .eq 1237, 3) := by decide +kernel
theorem dL_law_409 : decode cL_law 409 = .ok (.iconst 0, 1) := by decide +kernel
theorem dL_law_410 : decode cL_law 410 = .ok (.ireturn, 1) := by decide +kernel
set_option maxRecDepth 20000 in
set_option maxHeartbeats 4000000 in
theorem C_law_4 {nm : String} (K : xK) (L : xL) (k : Int32 → xH → Option (Int32 × xH)) (a0 a1 a2 : Nat) (hk : ∀ (a3 : Int32) (h : xH), Sim K L cL_law RL nm 4 8 (fun q : Int32 × xH => q.2) (xRz cL_law) 1643 [(0, .ref a0), (1, .ref a1), (2, .ref a2), (3, .int a3)] [] h (k a3 h)) (a3 : Int32) (h : xH) : Sim K L cL_law RL nm 4 8 (fun q : Int32 × xH => q.2) (xRz cL_law) 388 [(0, .ref a0), (1, .ref a1), (2, .ref a2), (3, .int a3)] [] h (f_law_c4 k a0 a1 a2 a3 h) := by
  unfold f_law_c4
  refine S_aload_n (pc := 388) 1 rfl dL_law_388 rfl ?_
  refine S_aload_n (pc := 389) 0 rfl dL_law_389 rfl ?_
  refine S_iload_n (pc := 390) 3 rfl dL_law_390 rfl ?_
  refine S_iconst (pc := 391) dL_law_391 ic_1 ?_
  refine S_iadd (pc := 392) dL_law_392 ?_
  refine S_aI (pc := 393) dL_law_393 (fun v1 => ?_)
  refine S_call_i (pc := 394) (rest := []) (fun q hq => (x_if hq).elim (fun z => R_V (av := [.int v1]) (q := (RX11, TX11, 12)) (M_X11_feed _ a1 v1 h z.2) z.1 rfl wd_276 wd_273 wd_274 wd_44 wd_275 ⟨rfl, hd_X11_feed⟩ ⟨Nat.le_of_ble_eq_true rfl, Nat.le_of_ble_eq_true rfl⟩ rfl (Nat.le_of_ble_eq_true rfl) dL_law_394) (fun hq => (by cases hq))) (fun _ h => absurd h List.not_mem_nil) (fun q2 => ?_)
  refine S_aload_n (pc := 397) 2 rfl dL_law_397 rfl ?_
  refine S_aload_n (pc := 398) 0 rfl dL_law_398 rfl ?_
  refine S_iload_n (pc := 399) 3 rfl dL_law_399 rfl ?_
  refine S_iconst (pc := 400) dL_law_400 ic_1 ?_
  refine S_iadd (pc := 401) dL_law_401 ?_
  refine S_aI (pc := 402) dL_law_402 (fun v3 => ?_)
  refine S_call_i (pc := 403) (rest := [.int q2.1]) (fun q hq => (x_if hq).elim (fun z => R_V (av := [.int v3]) (q := (RX12, TX12, 28)) (M_X12_feed _ a2 v3 q2.2 z.2) z.1 rfl wd_939 wd_936 wd_937 wd_50 wd_938 ⟨rfl, hd_X12_feed⟩ ⟨Nat.le_of_ble_eq_true rfl, Nat.le_of_ble_eq_true rfl⟩ rfl (Nat.le_of_ble_eq_true rfl) dL_law_403) (fun hq => (by cases hq))) (fun _ h => List.mem_cons_of_mem _ (List.mem_cons_of_mem _ (h))) (fun q4 => ?_)
  refine S_icmp_eq (pc := 406) (tgt := 1643) dL_law_406 (by decide) ?_ ?_
  · refine S_sub [0, 1, 2, 3] rfl ?_
    exact hk a3 q4.2
  · refine S_iconst (pc := 409) dL_law_409 ic_0 ?_
    exact Sim.fin ⟨dL_law_410, rfl, rfl, x_nar (Or.inl rfl)⟩ rfl
theorem dL_law_411 : decode cL_law 411 = .ok (.aload_n 1, 1) := by decide +kernel
theorem dL_law_412 : decode cL_law 412 = .ok (.aload_n 0, 1) := by decide +kernel
theorem dL_law_413 : decode cL_law 413 = .ok (.iload_n 3, 1) := by decide +kernel
theorem dL_law_414 : decode cL_law 414 = .ok (.iconst 1, 1) := by decide +kernel
theorem dL_law_415 : decode cL_law 415 = .ok (.iadd, 1) := by decide +kernel
theorem dL_law_416 : decode cL_law 416 = .ok (.iaload, 1) := by decide +kernel
theorem dL_law_417 : decode cL_law 417 = .ok (.invokevirtual 36, 3) := by decide +kernel
theorem dL_law_420 : decode cL_law 420 = .ok (.aload_n 2, 1) := by decide +kernel
theorem dL_law_421 : decode cL_law 421 = .ok (.aload_n 0, 1) := by decide +kernel
theorem dL_law_422 : decode cL_law 422 = .ok (.iload_n 3, 1) := by decide +kernel
theorem dL_law_423 : decode cL_law 423 = .ok (.iconst 1, 1) := by decide +kernel
theorem dL_law_424 : decode cL_law 424 = .ok (.iadd, 1) := by decide +kernel
theorem dL_law_425 : decode cL_law 425 = .ok (.iaload, 1) := by decide +kernel
theorem dL_law_426 : decode cL_law 426 = .ok (.invokevirtual 39, 3) := by decide +kernel
theorem dL_law_429 : decode cL_law 429 = .ok (.if_icmp .eq 1214, 3) := by decide +kernel
theorem dL_law_432 : decode cL_law 432 = .ok (.iconst 0, 1) := by decide +kernel
theorem dL_law_433 : decode cL_law 433 = .ok (.ireturn, 1) := by decide +kernel
set_option maxRecDepth 20000 in
set_option maxHeartbeats 4000000 in
theorem C_law_5 {nm : String} (K : xK) (L : xL) (k : Int32 → xH → Option (Int32 × xH)) (a0 a1 a2 : Nat) (hk : ∀ (a3 : Int32) (h : xH), Sim K L cL_law RL nm 4 8 (fun q : Int32 × xH => q.2) (xRz cL_law) 1643 [(0, .ref a0), (1, .ref a1), (2, .ref a2), (3, .int a3)] [] h (k a3 h)) (a3 : Int32) (h : xH) : Sim K L cL_law RL nm 4 8 (fun q : Int32 × xH => q.2) (xRz cL_law) 411 [(0, .ref a0), (1, .ref a1), (2, .ref a2), (3, .int a3)] [] h (f_law_c5 k a0 a1 a2 a3 h) := by
  unfold f_law_c5
  refine S_aload_n (pc := 411) 1 rfl dL_law_411 rfl ?_
  refine S_aload_n (pc := 412) 0 rfl dL_law_412 rfl ?_
  refine S_iload_n (pc := 413) 3 rfl dL_law_413 rfl ?_
  refine S_iconst (pc := 414) dL_law_414 ic_1 ?_
  refine S_iadd (pc := 415) dL_law_415 ?_
  refine S_aI (pc := 416) dL_law_416 (fun v1 => ?_)
  refine S_call_i (pc := 417) (rest := []) (fun q hq => (x_if hq).elim (fun z => R_V (av := [.int v1]) (q := (RX11, TX11, 12)) (M_X11_load _ a1 v1 h z.2) z.1 rfl wd_290 wd_287 wd_288 wd_44 wd_289 ⟨rfl, hd_X11_load⟩ ⟨Nat.le_of_ble_eq_true rfl, Nat.le_of_ble_eq_true rfl⟩ rfl (Nat.le_of_ble_eq_true rfl) dL_law_417) (fun hq => (by cases hq))) (fun _ h => absurd h List.not_mem_nil) (fun q2 => ?_)
  refine S_aload_n (pc := 420) 2 rfl dL_law_420 rfl ?_
  refine S_aload_n (pc := 421) 0 rfl dL_law_421 rfl ?_
  refine S_iload_n (pc := 422) 3 rfl dL_law_422 rfl ?_
  refine S_iconst (pc := 423) dL_law_423 ic_1 ?_
  refine S_iadd (pc := 424) dL_law_424 ?_
  refine S_aI (pc := 425) dL_law_425 (fun v3 => ?_)
  refine S_call_i (pc := 426) (rest := [.int q2.1]) (fun q hq => (x_if hq).elim (fun z => R_V (av := [.int v3]) (q := (RX12, TX12, 28)) (M_X12_load _ a2 v3 q2.2 z.2) z.1 rfl wd_944 wd_941 wd_942 wd_50 wd_943 ⟨rfl, hd_X12_load⟩ ⟨Nat.le_of_ble_eq_true rfl, Nat.le_of_ble_eq_true rfl⟩ rfl (Nat.le_of_ble_eq_true rfl) dL_law_426) (fun hq => (by cases hq))) (fun _ h => List.mem_cons_of_mem _ (List.mem_cons_of_mem _ (h))) (fun q4 => ?_)
  refine S_icmp_eq (pc := 429) (tgt := 1643) dL_law_429 (by decide) ?_ ?_
  · refine S_sub [0, 1, 2, 3] rfl ?_
    exact hk a3 q4.2
  · refine S_iconst (pc := 432) dL_law_432 ic_0 ?_
    exact Sim.fin ⟨dL_law_433, rfl, rfl, x_nar (Or.inl rfl)⟩ rfl
theorem dL_law_434 : decode cL_law 434 = .ok (.aload_n 1, 1) := by decide +kernel
theorem dL_law_435 : decode cL_law 435 = .ok (.invokevirtual 40, 3) := by decide +kernel
theorem dL_law_438 : decode cL_law 438 = .ok (.aload_n 2, 1) := by decide +kernel
theorem dL_law_439 : decode cL_law 439 = .ok (.invokevirtual 44, 3) := by decide +kernel
theorem dL_law_442 : decode cL_law 442 = .ok (.if_icmp .eq 1201, 3) := by decide +kernel
theorem dL_law_445 : decode cL_law 445 = .ok (.iconst 0, 1) := by decide +kernel
theorem dL_law_446 : decode cL_law 446 = .ok (.ireturn, 1) := by decide +kernel
set_option maxRecDepth 20000 in
set_option maxHeartbeats 4000000 in
theorem C_law_6 {nm : String} (K : xK) (L : xL) (k : Int32 → xH → Option (Int32 × xH)) (a0 a1 a2 : Nat) (hk : ∀ (a3 : Int32) (h : xH), Sim K L cL_law RL nm 4 8 (fun q : Int32 × xH => q.2) (xRz cL_law) 1643 [(0, .ref a0), (1, .ref a1), (2, .ref a2), (3, .int a3)] [] h (k a3 h)) (a3 : Int32) (h : xH) : Sim K L cL_law RL nm 4 8 (fun q : Int32 × xH => q.2) (xRz cL_law) 434 [(0, .ref a0), (1, .ref a1), (2, .ref a2), (3, .int a3)] [] h (f_law_c6 k a0 a1 a2 a3 h) := by
  unfold f_law_c6
  refine S_aload_n (pc := 434) 1 rfl dL_law_434 rfl ?_
  refine S_call_i (pc := 435) (rest := []) (fun q hq => (x_if hq).elim (fun z => R_V (av := []) (q := (RX11, TX11, 12)) (M_X11_fault _ a1 h z.2) z.1 rfl wd_443 wd_440 wd_441 wd_44 wd_442 ⟨rfl, hd_X11_fault⟩ ⟨Nat.le_of_ble_eq_true rfl, Nat.le_of_ble_eq_true rfl⟩ rfl (Nat.le_of_ble_eq_true rfl) dL_law_435) (fun hq => (by cases hq))) (fun _ h => absurd h List.not_mem_nil) (fun q1 => ?_)
  refine S_aload_n (pc := 438) 2 rfl dL_law_438 rfl ?_
  refine S_call_i (pc := 439) (rest := [.int q1.1]) (fun q hq => (x_if hq).elim (fun z => R_V (av := []) (q := (RX12, TX12, 28)) (M_X12_fault _ a2 q1.2 z.2) z.1 rfl wd_1000 wd_997 wd_998 wd_50 wd_999 ⟨rfl, hd_X12_fault⟩ ⟨Nat.le_of_ble_eq_true rfl, Nat.le_of_ble_eq_true rfl⟩ rfl (Nat.le_of_ble_eq_true rfl) dL_law_439) (fun hq => (by cases hq))) (fun _ h => List.mem_cons_of_mem _ (h)) (fun q2 => ?_)
  refine S_icmp_eq (pc := 442) (tgt := 1643) dL_law_442 (by decide) ?_ ?_
  · refine S_sub [0, 1, 2, 3] rfl ?_
    exact hk a3 q2.2
  · refine S_iconst (pc := 445) dL_law_445 ic_0 ?_
    exact Sim.fin ⟨dL_law_446, rfl, rfl, x_nar (Or.inl rfl)⟩ rfl
theorem dL_law_447 : decode cL_law 447 = .ok (.aload_n 1, 1) := by decide +kernel
theorem dL_law_448 : decode cL_law 448 = .ok (.aload_n 0, 1) := by decide +kernel
theorem dL_law_449 : decode cL_law 449 = .ok (.iload_n 3, 1) := by decide +kernel
theorem dL_law_450 : decode cL_law 450 = .ok (.iconst 1, 1) := by decide +kernel
theorem dL_law_451 : decode cL_law 451 = .ok (.iadd, 1) := by decide +kernel
theorem dL_law_452 : decode cL_law 452 = .ok (.iaload, 1) := by decide +kernel
theorem dL_law_453 : decode cL_law 453 = .ok (.aload_n 0, 1) := by decide +kernel
theorem dL_law_454 : decode cL_law 454 = .ok (.iload_n 3, 1) := by decide +kernel
theorem dL_law_455 : decode cL_law 455 = .ok (.iconst 2, 1) := by decide +kernel
theorem dL_law_456 : decode cL_law 456 = .ok (.iadd, 1) := by decide +kernel
theorem dL_law_457 : decode cL_law 457 = .ok (.iaload, 1) := by decide +kernel
theorem dL_law_458 : decode cL_law 458 = .ok (.aload_n 0, 1) := by decide +kernel
theorem dL_law_459 : decode cL_law 459 = .ok (.iload_n 3, 1) := by decide +kernel
theorem dL_law_460 : decode cL_law 460 = .ok (.iconst 3, 1) := by decide +kernel
theorem dL_law_461 : decode cL_law 461 = .ok (.iadd, 1) := by decide +kernel
theorem dL_law_462 : decode cL_law 462 = .ok (.iaload, 1) := by decide +kernel
theorem dL_law_463 : decode cL_law 463 = .ok (.invokevirtual 45, 3) := by decide +kernel
theorem dL_law_466 : decode cL_law 466 = .ok (.aload_n 2, 1) := by decide +kernel
theorem dL_law_467 : decode cL_law 467 = .ok (.aload_n 0, 1) := by decide +kernel
theorem dL_law_468 : decode cL_law 468 = .ok (.iload_n 3, 1) := by decide +kernel
theorem dL_law_469 : decode cL_law 469 = .ok (.iconst 1, 1) := by decide +kernel
theorem dL_law_470 : decode cL_law 470 = .ok (.iadd, 1) := by decide +kernel
theorem dL_law_471 : decode cL_law 471 = .ok (.iaload, 1) := by decide +kernel
theorem dL_law_472 : decode cL_law 472 = .ok (.aload_n 0, 1) := by decide +kernel
theorem dL_law_473 : decode cL_law 473 = .ok (.iload_n 3, 1) := by decide +kernel
theorem dL_law_474 : decode cL_law 474 = .ok (.iconst 2, 1) := by decide +kernel
theorem dL_law_475 : decode cL_law 475 = .ok (.iadd, 1) := by decide +kernel
theorem dL_law_476 : decode cL_law 476 = .ok (.iaload, 1) := by decide +kernel
theorem dL_law_477 : decode cL_law 477 = .ok (.aload_n 0, 1) := by decide +kernel
theorem dL_law_478 : decode cL_law 478 = .ok (.iload_n 3, 1) := by decide +kernel
theorem dL_law_479 : decode cL_law 479 = .ok (.iconst 3, 1) := by decide +kernel
theorem dL_law_480 : decode cL_law 480 = .ok (.iadd, 1) := by decide +kernel
theorem dL_law_481 : decode cL_law 481 = .ok (.iaload, 1) := by decide +kernel
theorem dL_law_482 : decode cL_law 482 = .ok (.invokevirtual 48, 3) := by decide +kernel
theorem dL_law_485 : decode cL_law 485 = .ok (.if_icmp .eq 1158, 3) := by decide +kernel
theorem dL_law_488 : decode cL_law 488 = .ok (.iconst 0, 1) := by decide +kernel
theorem dL_law_489 : decode cL_law 489 = .ok (.ireturn, 1) := by decide +kernel
set_option maxRecDepth 20000 in
set_option maxHeartbeats 4000000 in
theorem C_law_7 {nm : String} (K : xK) (L : xL) (k : Int32 → xH → Option (Int32 × xH)) (a0 a1 a2 : Nat) (hk : ∀ (a3 : Int32) (h : xH), Sim K L cL_law RL nm 4 8 (fun q : Int32 × xH => q.2) (xRz cL_law) 1643 [(0, .ref a0), (1, .ref a1), (2, .ref a2), (3, .int a3)] [] h (k a3 h)) (a3 : Int32) (h : xH) : Sim K L cL_law RL nm 4 8 (fun q : Int32 × xH => q.2) (xRz cL_law) 447 [(0, .ref a0), (1, .ref a1), (2, .ref a2), (3, .int a3)] [] h (f_law_c7 k a0 a1 a2 a3 h) := by
  unfold f_law_c7
  refine S_aload_n (pc := 447) 1 rfl dL_law_447 rfl ?_
  refine S_aload_n (pc := 448) 0 rfl dL_law_448 rfl ?_
  refine S_iload_n (pc := 449) 3 rfl dL_law_449 rfl ?_
  refine S_iconst (pc := 450) dL_law_450 ic_1 ?_
  refine S_iadd (pc := 451) dL_law_451 ?_
  refine S_aI (pc := 452) dL_law_452 (fun v1 => ?_)
  refine S_aload_n (pc := 453) 0 rfl dL_law_453 rfl ?_
  refine S_iload_n (pc := 454) 3 rfl dL_law_454 rfl ?_
  refine S_iconst (pc := 455) dL_law_455 ic_2 ?_
  refine S_iadd (pc := 456) dL_law_456 ?_
  refine S_aI (pc := 457) dL_law_457 (fun v2 => ?_)
  refine S_aload_n (pc := 458) 0 rfl dL_law_458 rfl ?_
  refine S_iload_n (pc := 459) 3 rfl dL_law_459 rfl ?_
  refine S_iconst (pc := 460) dL_law_460 ic_3 ?_
  refine S_iadd (pc := 461) dL_law_461 ?_
  refine S_aI (pc := 462) dL_law_462 (fun v3 => ?_)
  refine S_call_i (pc := 463) (rest := []) (fun q hq => (x_if hq).elim (fun z => R_V (av := [.int v1, .int v2, .int v3]) (q := (RX11, TX11, 12)) (M_X11_put _ a1 v1 v2 v3 h z.2) z.1 rfl wd_447 wd_444 wd_445 wd_44 wd_446 ⟨rfl, hd_X11_put⟩ ⟨Nat.le_of_ble_eq_true rfl, Nat.le_of_ble_eq_true rfl⟩ rfl (Nat.le_of_ble_eq_true rfl) dL_law_463) (fun hq => (by cases hq))) (fun _ h => absurd h List.not_mem_nil) (fun q4 => ?_)
  refine S_aload_n (pc := 466) 2 rfl dL_law_466 rfl ?_
  refine S_aload_n (pc := 467) 0 rfl dL_law_467 rfl ?_
  refine S_iload_n (pc := 468) 3 rfl dL_law_468 rfl ?_
  refine S_iconst (pc := 469) dL_law_469 ic_1 ?_
  refine S_iadd (pc := 470) dL_law_470 ?_
  refine S_aI (pc := 471) dL_law_471 (fun v5 => ?_)
  refine S_aload_n (pc := 472) 0 rfl dL_law_472 rfl ?_
  refine S_iload_n (pc := 473) 3 rfl dL_law_473 rfl ?_
  refine S_iconst (pc := 474) dL_law_474 ic_2 ?_
  refine S_iadd (pc := 475) dL_law_475 ?_
  refine S_aI (pc := 476) dL_law_476 (fun v6 => ?_)
  refine S_aload_n (pc := 477) 0 rfl dL_law_477 rfl ?_
  refine S_iload_n (pc := 478) 3 rfl dL_law_478 rfl ?_
  refine S_iconst (pc := 479) dL_law_479 ic_3 ?_
  refine S_iadd (pc := 480) dL_law_480 ?_
  refine S_aI (pc := 481) dL_law_481 (fun v7 => ?_)
  refine S_call_i (pc := 482) (rest := [.int q4.1]) (fun q hq => (x_if hq).elim (fun z => R_V (av := [.int v5, .int v6, .int v7]) (q := (RX12, TX12, 28)) (M_X12_put _ a2 v5 v6 v7 q4.2 z.2) z.1 rfl wd_1004 wd_1001 wd_1002 wd_50 wd_1003 ⟨rfl, hd_X12_put⟩ ⟨Nat.le_of_ble_eq_true rfl, Nat.le_of_ble_eq_true rfl⟩ rfl (Nat.le_of_ble_eq_true rfl) dL_law_482) (fun hq => (by cases hq))) (fun _ h => List.mem_cons_of_mem _ (List.mem_cons_of_mem _ (List.mem_cons_of_mem _ (List.mem_cons_of_mem _ (h))))) (fun q8 => ?_)
  refine S_icmp_eq (pc := 485) (tgt := 1643) dL_law_485 (by decide) ?_ ?_
  · refine S_sub [0, 1, 2, 3] rfl ?_
    exact hk a3 q8.2
  · refine S_iconst (pc := 488) dL_law_488 ic_0 ?_
    exact Sim.fin ⟨dL_law_489, rfl, rfl, x_nar (Or.inl rfl)⟩ rfl
theorem dL_law_490 : decode cL_law 490 = .ok (.aload_n 1, 1) := by decide +kernel
theorem dL_law_491 : decode cL_law 491 = .ok (.aload_n 0, 1) := by decide +kernel
theorem dL_law_492 : decode cL_law 492 = .ok (.iload_n 3, 1) := by decide +kernel
theorem dL_law_493 : decode cL_law 493 = .ok (.iconst 1, 1) := by decide +kernel
theorem dL_law_494 : decode cL_law 494 = .ok (.iadd, 1) := by decide +kernel
theorem dL_law_495 : decode cL_law 495 = .ok (.iaload, 1) := by decide +kernel
theorem dL_law_496 : decode cL_law 496 = .ok (.aload_n 0, 1) := by decide +kernel
theorem dL_law_497 : decode cL_law 497 = .ok (.iload_n 3, 1) := by decide +kernel
theorem dL_law_498 : decode cL_law 498 = .ok (.iconst 2, 1) := by decide +kernel
theorem dL_law_499 : decode cL_law 499 = .ok (.iadd, 1) := by decide +kernel
theorem dL_law_500 : decode cL_law 500 = .ok (.iaload, 1) := by decide +kernel
theorem dL_law_501 : decode cL_law 501 = .ok (.aload_n 0, 1) := by decide +kernel
theorem dL_law_502 : decode cL_law 502 = .ok (.iload_n 3, 1) := by decide +kernel
theorem dL_law_503 : decode cL_law 503 = .ok (.iconst 3, 1) := by decide +kernel
theorem dL_law_504 : decode cL_law 504 = .ok (.iadd, 1) := by decide +kernel
theorem dL_law_505 : decode cL_law 505 = .ok (.iaload, 1) := by decide +kernel
theorem dL_law_506 : decode cL_law 506 = .ok (.invokevirtual 49, 3) := by decide +kernel
theorem dL_law_509 : decode cL_law 509 = .ok (.aload_n 2, 1) := by decide +kernel
theorem dL_law_510 : decode cL_law 510 = .ok (.aload_n 0, 1) := by decide +kernel
theorem dL_law_511 : decode cL_law 511 = .ok (.iload_n 3, 1) := by decide +kernel
theorem dL_law_512 : decode cL_law 512 = .ok (.iconst 1, 1) := by decide +kernel
theorem dL_law_513 : decode cL_law 513 = .ok (.iadd, 1) := by decide +kernel
theorem dL_law_514 : decode cL_law 514 = .ok (.iaload, 1) := by decide +kernel
theorem dL_law_515 : decode cL_law 515 = .ok (.aload_n 0, 1) := by decide +kernel
theorem dL_law_516 : decode cL_law 516 = .ok (.iload_n 3, 1) := by decide +kernel
theorem dL_law_517 : decode cL_law 517 = .ok (.iconst 2, 1) := by decide +kernel
theorem dL_law_518 : decode cL_law 518 = .ok (.iadd, 1) := by decide +kernel
theorem dL_law_519 : decode cL_law 519 = .ok (.iaload, 1) := by decide +kernel
theorem dL_law_520 : decode cL_law 520 = .ok (.aload_n 0, 1) := by decide +kernel
theorem dL_law_521 : decode cL_law 521 = .ok (.iload_n 3, 1) := by decide +kernel
theorem dL_law_522 : decode cL_law 522 = .ok (.iconst 3, 1) := by decide +kernel
theorem dL_law_523 : decode cL_law 523 = .ok (.iadd, 1) := by decide +kernel
theorem dL_law_524 : decode cL_law 524 = .ok (.iaload, 1) := by decide +kernel
theorem dL_law_525 : decode cL_law 525 = .ok (.invokevirtual 52, 3) := by decide +kernel
theorem dL_law_528 : decode cL_law 528 = .ok (.if_icmp .eq 1115, 3) := by decide +kernel
theorem dL_law_531 : decode cL_law 531 = .ok (.iconst 0, 1) := by decide +kernel
theorem dL_law_532 : decode cL_law 532 = .ok (.ireturn, 1) := by decide +kernel
set_option maxRecDepth 20000 in
set_option maxHeartbeats 4000000 in
theorem C_law_8 {nm : String} (K : xK) (L : xL) (k : Int32 → xH → Option (Int32 × xH)) (a0 a1 a2 : Nat) (hk : ∀ (a3 : Int32) (h : xH), Sim K L cL_law RL nm 4 8 (fun q : Int32 × xH => q.2) (xRz cL_law) 1643 [(0, .ref a0), (1, .ref a1), (2, .ref a2), (3, .int a3)] [] h (k a3 h)) (a3 : Int32) (h : xH) : Sim K L cL_law RL nm 4 8 (fun q : Int32 × xH => q.2) (xRz cL_law) 490 [(0, .ref a0), (1, .ref a1), (2, .ref a2), (3, .int a3)] [] h (f_law_c8 k a0 a1 a2 a3 h) := by
  unfold f_law_c8
  refine S_aload_n (pc := 490) 1 rfl dL_law_490 rfl ?_
  refine S_aload_n (pc := 491) 0 rfl dL_law_491 rfl ?_
  refine S_iload_n (pc := 492) 3 rfl dL_law_492 rfl ?_
  refine S_iconst (pc := 493) dL_law_493 ic_1 ?_
  refine S_iadd (pc := 494) dL_law_494 ?_
  refine S_aI (pc := 495) dL_law_495 (fun v1 => ?_)
  refine S_aload_n (pc := 496) 0 rfl dL_law_496 rfl ?_
  refine S_iload_n (pc := 497) 3 rfl dL_law_497 rfl ?_
  refine S_iconst (pc := 498) dL_law_498 ic_2 ?_
  refine S_iadd (pc := 499) dL_law_499 ?_
  refine S_aI (pc := 500) dL_law_500 (fun v2 => ?_)
  refine S_aload_n (pc := 501) 0 rfl dL_law_501 rfl ?_
  refine S_iload_n (pc := 502) 3 rfl dL_law_502 rfl ?_
  refine S_iconst (pc := 503) dL_law_503 ic_3 ?_
  refine S_iadd (pc := 504) dL_law_504 ?_
  refine S_aI (pc := 505) dL_law_505 (fun v3 => ?_)
  refine S_call_i (pc := 506) (rest := []) (fun q hq => (x_if hq).elim (fun z => R_V (av := [.int v1, .int v2, .int v3]) (q := (RX11, TX11, 12)) (M_X11_add _ a1 v1 v2 v3 h z.2) z.1 rfl wd_459 wd_456 wd_457 wd_44 wd_458 ⟨rfl, hd_X11_add⟩ ⟨Nat.le_of_ble_eq_true rfl, Nat.le_of_ble_eq_true rfl⟩ rfl (Nat.le_of_ble_eq_true rfl) dL_law_506) (fun hq => (by cases hq))) (fun _ h => absurd h List.not_mem_nil) (fun q4 => ?_)
  refine S_aload_n (pc := 509) 2 rfl dL_law_509 rfl ?_
  refine S_aload_n (pc := 510) 0 rfl dL_law_510 rfl ?_
  refine S_iload_n (pc := 511) 3 rfl dL_law_511 rfl ?_
  refine S_iconst (pc := 512) dL_law_512 ic_1 ?_
  refine S_iadd (pc := 513) dL_law_513 ?_
  refine S_aI (pc := 514) dL_law_514 (fun v5 => ?_)
  refine S_aload_n (pc := 515) 0 rfl dL_law_515 rfl ?_
  refine S_iload_n (pc := 516) 3 rfl dL_law_516 rfl ?_
  refine S_iconst (pc := 517) dL_law_517 ic_2 ?_
  refine S_iadd (pc := 518) dL_law_518 ?_
  refine S_aI (pc := 519) dL_law_519 (fun v6 => ?_)
  refine S_aload_n (pc := 520) 0 rfl dL_law_520 rfl ?_
  refine S_iload_n (pc := 521) 3 rfl dL_law_521 rfl ?_
  refine S_iconst (pc := 522) dL_law_522 ic_3 ?_
  refine S_iadd (pc := 523) dL_law_523 ?_
  refine S_aI (pc := 524) dL_law_524 (fun v7 => ?_)
  refine S_call_i (pc := 525) (rest := [.int q4.1]) (fun q hq => (x_if hq).elim (fun z => R_V (av := [.int v5, .int v6, .int v7]) (q := (RX12, TX12, 28)) (M_X12_add _ a2 v5 v6 v7 q4.2 z.2) z.1 rfl wd_1022 wd_1019 wd_1020 wd_50 wd_1021 ⟨rfl, hd_X12_add⟩ ⟨Nat.le_of_ble_eq_true rfl, Nat.le_of_ble_eq_true rfl⟩ rfl (Nat.le_of_ble_eq_true rfl) dL_law_525) (fun hq => (by cases hq))) (fun _ h => List.mem_cons_of_mem _ (List.mem_cons_of_mem _ (List.mem_cons_of_mem _ (List.mem_cons_of_mem _ (h))))) (fun q8 => ?_)
  refine S_icmp_eq (pc := 528) (tgt := 1643) dL_law_528 (by decide) ?_ ?_
  · refine S_sub [0, 1, 2, 3] rfl ?_
    exact hk a3 q8.2
  · refine S_iconst (pc := 531) dL_law_531 ic_0 ?_
    exact Sim.fin ⟨dL_law_532, rfl, rfl, x_nar (Or.inl rfl)⟩ rfl
