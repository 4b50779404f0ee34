theorem dL_law_216 : decode code 216 = .ok (.aload_n 1, 1) := by decide +kernel
theorem dL_law_217 : decode code 217 = .ok (.aload_n 0, 1) := by decide +kernel
theorem dL_law_218 : decode code 218 = .ok (.iload_n 3, 1) := by decide +kernel
theorem dL_law_219 : decode code 219 = .ok (.iconst 1, 1) := by decide +kernel
theorem dL_law_220 : decode code 220 = .ok (.iadd, 1) := by decide +kernel
theorem dL_law_221 : decode code 221 = .ok (.iaload, 1) := by decide +kernel
theorem dL_law_222 : decode code 222 = .ok (.aload_n 0, 1) := by decide +kernel
theorem dL_law_223 : decode code 223 = .ok (.iload_n 3, 1) := by decide +kernel
theorem dL_law_224 : decode code 224 = .ok (.iconst 2, 1) := by decide +kernel
theorem dL_law_225 : decode code 225 = .ok (.iadd, 1) := by decide +kernel
theorem dL_law_226 : decode code 226 = .ok (.iaload, 1) := by decide +kernel
theorem dL_law_227 : decode code 227 = .ok (.invokevirtual 13, 3) := by decide +kernel
theorem dL_law_230 : decode code 230 = .ok (.aload_n 2, 1) := by decide +kernel
theorem dL_law_231 : decode code 231 = .ok (.aload_n 0, 1) := by decide +kernel
theorem dL_law_232 : decode code 232 = .ok (.iload_n 3, 1) := by decide +kernel
theorem dL_law_233 : decode code 233 = .ok (.iconst 1, 1) := by decide +kernel
theorem dL_law_234 : decode code 234 = .ok (.iadd, 1) := by decide +kernel
theorem dL_law_235 : decode code 235 = .ok (.iaload, 1) := by decide +kernel
theorem dL_law_236 : decode code 236 = .ok (.aload_n 0, 1) := by decide +kernel
theorem dL_law_237 : decode code 237 = .ok (.iload_n 3, 1) := by decide +kernel
theorem dL_law_238 : decode code 238 = .ok (.iconst 2, 1) := by decide +kernel
theorem dL_law_239 : decode code 239 = .ok (.iadd, 1) := by decide +kernel
theorem dL_law_240 : decode code 240 = .ok (.iaload, 1) := by decide +kernel
theorem dL_law_241 : decode code 241 = .ok (.invokevirtual 17, 3) := by decide +kernel
theorem dL_law_244 : decode code 244 = .ok (.if_icmp .eq 1536, 3) := by decide +kernel
theorem dL_law_249 : decode code 249 = .ok (.aload_n 1, 1) := by decide +kernel
theorem dL_law_250 : decode code 250 = .ok (.aload_n 0, 1) := by decide +kernel
theorem dL_law_251 : decode code 251 = .ok (.iload_n 3, 1) := by decide +kernel
theorem dL_law_252 : decode code 252 = .ok (.iconst 1, 1) := by decide +kernel
theorem dL_law_253 : decode code 253 = .ok (.iadd, 1) := by decide +kernel
theorem dL_law_254 : decode code 254 = .ok (.iaload, 1) := by decide +kernel
theorem dL_law_255 : decode code 255 = .ok (.aload_n 0, 1) := by decide +kernel
theorem dL_law_256 : decode code 256 = .ok (.iload_n 3, 1) := by decide +kernel
theorem dL_law_257 : decode code 257 = .ok (.iconst 2, 1) := by decide +kernel
theorem dL_law_258 : decode code 258 = .ok (.iadd, 1) := by decide +kernel
theorem dL_law_259 : decode code 259 = .ok (.iaload, 1) := by decide +kernel
theorem dL_law_260 : decode code 260 = .ok (.aload_n 0, 1) := by decide +kernel
theorem dL_law_261 : decode code 261 = .ok (.iload_n 3, 1) := by decide +kernel
theorem dL_law_262 : decode code 262 = .ok (.iconst 3, 1) := by decide +kernel
theorem dL_law_263 : decode code 263 = .ok (.iadd, 1) := by decide +kernel
theorem dL_law_264 : decode code 264 = .ok (.iaload, 1) := by decide +kernel
theorem dL_law_265 : decode code 265 = .ok (.invokevirtual 18, 3) := by decide +kernel
theorem dL_law_268 : decode code 268 = .ok (.aload_n 2, 1) := by decide +kernel
theorem dL_law_269 : decode code 269 = .ok (.aload_n 0, 1) := by decide +kernel
theorem dL_law_270 : decode code 270 = .ok (.iload_n 3, 1) := by decide +kernel
theorem dL_law_271 : decode code 271 = .ok (.iconst 1, 1) := by decide +kernel
theorem dL_law_272 : decode code 272 = .ok (.iadd, 1) := by decide +kernel
theorem dL_law_273 : decode code 273 = .ok (.iaload, 1) := by decide +kernel
theorem dL_law_274 : decode code 274 = .ok (.aload_n 0, 1) := by decide +kernel
theorem dL_law_275 : decode code 275 = .ok (.iload_n 3, 1) := by decide +kernel
theorem dL_law_276 : decode code 276 = .ok (.iconst 2, 1) := by decide +kernel
theorem dL_law_277 : decode code 277 = .ok (.iadd, 1) := by decide +kernel
theorem dL_law_278 : decode code 278 = .ok (.iaload, 1) := by decide +kernel
theorem dL_law_279 : decode code 279 = .ok (.aload_n 0, 1) := by decide +kernel
theorem dL_law_280 : decode code 280 = .ok (.iload_n 3, 1) := by decide +kernel
theorem dL_law_281 : decode code 281 = .ok (.iconst 3, 1) := by decide +kernel
theorem dL_law_282 : decode code 282 = .ok (.iadd, 1) := by decide +kernel
theorem dL_law_283 : decode code 283 = .ok (.iaload, 1) := by decide +kernel
theorem dL_law_284 : decode code 284 = .ok (.invokevirtual 22, 3) := by decide +kernel
theorem dL_law_287 : decode code 287 = .ok (.if_icmp .eq 1493, 3) := by decide +kernel
theorem dL_law_292 : decode code 292 = .ok (.aload_n 1, 1) := by decide +kernel
theorem dL_law_293 : decode code 293 = .ok (.aload_n 0, 1) := by decide +kernel
theorem dL_law_294 : decode code 294 = .ok (.iload_n 3, 1) := by decide +kernel
theorem dL_law_295 : decode code 295 = .ok (.iconst 1, 1) := by decide +kernel
theorem dL_law_296 : decode code 296 = .ok (.iadd, 1) := by decide +kernel
theorem dL_law_297 : decode code 297 = .ok (.iaload, 1) := by decide +kernel
theorem dL_law_298 : decode code 298 = .ok (.aload_n 0, 1) := by decide +kernel
theorem dL_law_299 : decode code 299 = .ok (.iload_n 3, 1) := by decide +kernel
theorem dL_law_300 : decode code 300 = .ok (.iconst 2, 1) := by decide +kernel
theorem dL_law_301 : decode code 301 = .ok (.iadd, 1) := by decide +kernel
theorem dL_law_302 : decode code 302 = .ok (.iaload, 1) := by decide +kernel
theorem dL_law_303 : decode code 303 = .ok (.aload_n 0, 1) := by decide +kernel
theorem dL_law_304 : decode code 304 = .ok (.iload_n 3, 1) := by decide +kernel
theorem dL_law_305 : decode code 305 = .ok (.iconst 3, 1) := by decide +kernel
theorem dL_law_306 : decode code 306 = .ok (.iadd, 1) := by decide +kernel
theorem dL_law_307 : decode code 307 = .ok (.iaload, 1) := by decide +kernel
theorem dL_law_308 : decode code 308 = .ok (.invokevirtual 23, 3) := by decide +kernel
theorem dL_law_311 : decode code 311 = .ok (.aload_n 2, 1) := by decide +kernel
theorem dL_law_312 : decode code 312 = .ok (.aload_n 0, 1) := by decide +kernel
theorem dL_law_313 : decode code 313 = .ok (.iload_n 3, 1) := by decide +kernel
theorem dL_law_314 : decode code 314 = .ok (.iconst 1, 1) := by decide +kernel
theorem dL_law_315 : decode code 315 = .ok (.iadd, 1) := by decide +kernel
theorem dL_law_316 : decode code 316 = .ok (.iaload, 1) := by decide +kernel
theorem dL_law_317 : decode code 317 = .ok (.aload_n 0, 1) := by decide +kernel
theorem dL_law_318 : decode code 318 = .ok (.iload_n 3, 1) := by decide +kernel
theorem dL_law_319 : decode code 319 = .ok (.iconst 2, 1) := by decide +kernel
theorem dL_law_320 : decode code 320 = .ok (.iadd, 1) := by decide +kernel
theorem dL_law_321 : decode code 321 = .ok (.iaload, 1) := by decide +kernel
theorem dL_law_322 : decode code 322 = .ok (.aload_n 0, 1) := by decide +kernel
theorem dL_law_323 : decode code 323 = .ok (.iload_n 3, 1) := by decide +kernel
theorem dL_law_324 : decode code 324 = .ok (.iconst 3, 1) := by decide +kernel
theorem dL_law_325 : decode code 325 = .ok (.iadd, 1) := by decide +kernel
theorem dL_law_326 : decode code 326 = .ok (.iaload, 1) := by decide +kernel
theorem dL_law_327 : decode code 327 = .ok (.invokevirtual 26, 3) := by decide +kernel
theorem dL_law_330 : decode code 330 = .ok (.if_icmp .eq 1450, 3) := by decide +kernel
theorem dL_law_335 : decode code 335 = .ok (.aload_n 1, 1) := by decide +kernel
theorem dL_law_336 : decode code 336 = .ok (.aload_n 0, 1) := by decide +kernel
theorem dL_law_337 : decode code 337 = .ok (.iload_n 3, 1) := by decide +kernel
theorem dL_law_338 : decode code 338 = .ok (.iconst 1, 1) := by decide +kernel
theorem dL_law_339 : decode code 339 = .ok (.iadd, 1) := by decide +kernel
theorem dL_law_340 : decode code 340 = .ok (.iaload, 1) := by decide +kernel
theorem dL_law_341 : decode code 341 = .ok (.aload_n 0, 1) := by decide +kernel
theorem dL_law_342 : decode code 342 = .ok (.iload_n 3, 1) := by decide +kernel
theorem dL_law_343 : decode code 343 = .ok (.iconst 2, 1) := by decide +kernel
theorem dL_law_344 : decode code 344 = .ok (.iadd, 1) := by decide +kernel
theorem dL_law_345 : decode code 345 = .ok (.iaload, 1) := by decide +kernel
theorem dL_law_346 : decode code 346 = .ok (.invokevirtual 27, 3) := by decide +kernel
theorem dL_law_349 : decode code 349 = .ok (.aload_n 2, 1) := by decide +kernel
theorem dL_law_350 : decode code 350 = .ok (.aload_n 0, 1) := by decide +kernel
theorem dL_law_351 : decode code 351 = .ok (.iload_n 3, 1) := by decide +kernel
theorem dL_law_352 : decode code 352 = .ok (.iconst 1, 1) := by decide +kernel
theorem dL_law_353 : decode code 353 = .ok (.iadd, 1) := by decide +kernel
theorem dL_law_354 : decode code 354 = .ok (.iaload, 1) := by decide +kernel
theorem dL_law_355 : decode code 355 = .ok (.aload_n 0, 1) := by decide +kernel
theorem dL_law_356 : decode code 356 = .ok (.iload_n 3, 1) := by decide +kernel
theorem dL_law_357 : decode code 357 = .ok (.iconst 2, 1) := by decide +kernel
theorem dL_law_358 : decode code 358 = .ok (.iadd, 1) := by decide +kernel
theorem dL_law_359 : decode code 359 = .ok (.iaload, 1) := by decide +kernel
theorem dL_law_360 : decode code 360 = .ok (.invokevirtual 30, 3) := by decide +kernel
theorem dL_law_363 : decode code 363 = .ok (.if_icmp .eq 1417, 3) := by decide +kernel
theorem dL_law_368 : decode code 368 = .ok (.aload_n 1, 1) := by decide +kernel
theorem dL_law_369 : decode code 369 = .ok (.aload_n 0, 1) := by decide +kernel
theorem dL_law_370 : decode code 370 = .ok (.iload_n 3, 1) := by decide +kernel
theorem dL_law_371 : decode code 371 = .ok (.iconst 1, 1) := by decide +kernel
theorem dL_law_372 : decode code 372 = .ok (.iadd, 1) := by decide +kernel
theorem dL_law_373 : decode code 373 = .ok (.iaload, 1) := by decide +kernel
theorem dL_law_374 : decode code 374 = .ok (.aload_n 0, 1) := by decide +kernel
theorem dL_law_375 : decode code 375 = .ok (.iload_n 3, 1) := by decide +kernel
theorem dL_law_376 : decode code 376 = .ok (.iconst 2, 1) := by decide +kernel
theorem dL_law_377 : decode code 377 = .ok (.iadd, 1) := by decide +kernel
theorem dL_law_378 : decode code 378 = .ok (.iaload, 1) := by decide +kernel
theorem dL_law_379 : decode code 379 = .ok (.invokevirtual 31, 3) := by decide +kernel
theorem dL_law_382 : decode code 382 = .ok (.aload_n 2, 1) := by decide +kernel
theorem dL_law_383 : decode code 383 = .ok (.aload_n 0, 1) := by decide +kernel
theorem dL_law_384 : decode code 384 = .ok (.iload_n 3, 1) := by decide +kernel
theorem dL_law_385 : decode code 385 = .ok (.iconst 1, 1) := by decide +kernel
theorem dL_law_386 : decode code 386 = .ok (.iadd, 1) := by decide +kernel
theorem dL_law_387 : decode code 387 = .ok (.iaload, 1) := by decide +kernel
theorem dL_law_388 : decode code 388 = .ok (.aload_n 0, 1) := by decide +kernel
theorem dL_law_389 : decode code 389 = .ok (.iload_n 3, 1) := by decide +kernel
theorem dL_law_390 : decode code 390 = .ok (.iconst 2, 1) := by decide +kernel
theorem dL_law_391 : decode code 391 = .ok (.iadd, 1) := by decide +kernel
theorem dL_law_392 : decode code 392 = .ok (.iaload, 1) := by decide +kernel
theorem dL_law_393 : decode code 393 = .ok (.invokevirtual 34, 3) := by decide +kernel
theorem dL_law_396 : decode code 396 = .ok (.if_icmp .eq 1384, 3) := by decide +kernel
theorem dL_law_401 : decode code 401 = .ok (.aload_n 1, 1) := by decide +kernel
theorem dL_law_402 : decode code 402 = .ok (.aload_n 0, 1) := by decide +kernel
theorem dL_law_403 : decode code 403 = .ok (.iload_n 3, 1) := by decide +kernel
theorem dL_law_404 : decode code 404 = .ok (.iconst 1, 1) := by decide +kernel
theorem dL_law_405 : decode code 405 = .ok (.iadd, 1) := by decide +kernel
theorem dL_law_406 : decode code 406 = .ok (.iaload, 1) := by decide +kernel
theorem dL_law_407 : decode code 407 = .ok (.invokevirtual 35, 3) := by decide +kernel
theorem dL_law_410 : decode code 410 = .ok (.aload_n 2, 1) := by decide +kernel
theorem dL_law_411 : decode code 411 = .ok (.aload_n 0, 1) := by decide +kernel
theorem dL_law_412 : decode code 412 = .ok (.iload_n 3, 1) := by decide +kernel
theorem dL_law_413 : decode code 413 = .ok (.iconst 1, 1) := by decide +kernel
theorem dL_law_414 : decode code 414 = .ok (.iadd, 1) := by decide +kernel
theorem dL_law_415 : decode code 415 = .ok (.iaload, 1) := by decide +kernel
theorem dL_law_416 : decode code 416 = .ok (.invokevirtual 39, 3) := by decide +kernel
theorem dL_law_419 : decode code 419 = .ok (.if_icmp .eq 1361, 3) := by decide +kernel
set_option maxHeartbeats 4000000 in
set_option maxRecDepth 100000 in
theorem law_0 {p : Program} {e : Env} {s : State} {m : MethodId} {below : List Frame} {meth : Method} {c : Code} (l : Launch) {b : Nat} {xs : Nat → Int32} {D : va_G} {cI : ClassId} {A : Nat → Prop} {x nw kp fu ra kr rd wd ld mt vo sh fd w0 w1 w2 w3 w4 w5 h ys yk yt yf yb yz yn yc yp yw ye yx : Nat} {H : Heap} {locs : List Loc} {ls : Array Slot} (hA0 : (fun q : Nat => s.heap.size ≤ q) = A) (C0 : lw_At p s m meth c b 7 xs) (hK : va_K D vwCl [(cI, .int)] s) (hN : kNW s) (hP : va_P D vwCl [(x, .inr (10, [.ref nw, .ref kp, .ref fu, .ref ra, .ref kr, .ref rd, .ref wd, .ref ld, .ref mt, .ref vo, .ref sh, .ref fd, .int 0])), (nw, .inr (9, [.ref w0, .ref w1, .ref w2, .ref w3, .ref w4, .ref w5, .int 0, .int 40, .int 0])), (w0, .inl (cI, 12, .inl (fun _ => (2 : Int32)))), (fd, .inl (cI, 6, .inl (fun _ => (0 : Int32)))), (h, .inr (11, [.ref ys, .ref yk, .ref yt, .int 0, .ref yf, .ref yb, .ref yz, .ref yn, .ref yc, .int 0, .ref yp, .ref yw, .int 0, .int 0, .int 0, .int 0, .int 0, .int 0, .int 0, .int 0, .int 0, .ref ye, .int 0, .int 0, .ref yx])), (ys, .inl (cI, 1201, .inl sI)), (yf, .inl (cI, 6, .inl (fun _ => (0 : Int32))))] H) (hD : va_D A [(x, .inr (10, [.ref nw, .ref kp, .ref fu, .ref ra, .ref kr, .ref rd, .ref wd, .ref ld, .ref mt, .ref vo, .ref sh, .ref fd, .int 0])), (nw, .inr (9, [.ref w0, .ref w1, .ref w2, .ref w3, .ref w4, .ref w5, .int 0, .int 40, .int 0])), (w0, .inl (cI, 12, .inl (fun _ => (2 : Int32)))), (fd, .inl (cI, 6, .inl (fun _ => (0 : Int32)))), (h, .inr (11, [.ref ys, .ref yk, .ref yt, .int 0, .ref yf, .ref yb, .ref yz, .ref yn, .ref yc, .int 0, .ref yp, .ref yw, .int 0, .int 0, .int 0, .int 0, .int 0, .int 0, .int 0, .int 0, .int 0, .ref ye, .int 0, .int 0, .ref yx])), (ys, .inl (cI, 1201, .inl sI)), (yf, .inl (cI, 6, .inl (fun _ => (0 : Int32))))]) (hS : va_S A s.heap H locs) (hl : lv_has ls 4 [(3, .int 0), (2, .ref h), (1, .ref x), (0, .ref b)]) : W p l e room_1 s m #[Value.ref b] below meth c H locs 98 13371 (lw_Z below #[Value.ref b] s) (F0 m 216 ls []) := by
  obtain ⟨hx, hb, hr, hml, hown, hts, hX, hbl, hlocks, hgv⟩ := C0
  have hT : ∀ w ∈ gT, w.before #[Value.ref b] s = true := fun w h => hts w (List.mem_filter.mp h).1
  have hown : s.vm.findClass RL = some m.cls := hown
  have hA : ∀ q : Nat, s.heap.size ≤ q → A q := fun q h => by rw [← hA0]; exact h
  have hbA : ¬ A b := by rw [← hA0]; exact Nat.not_le.mpr hbl
  refine lv_aload_n hx hb dL_law_216 rfl (lv_at hl 2 rfl) ?_
  refine lv_aload_n hx hb dL_law_217 rfl (lv_at hl 3 rfl) ?_
  refine lv_iload_n hx hb dL_law_218 rfl (lv_at hl 0 rfl) ?_
  refine lv_iconst (v := 1) hx hb dL_law_219 (by decide) ?_
  refine k_iadd (v := 1) hx hb dL_law_220 (by decide) ?_
  refine k_sld (v := (xs 1)) hx hb hX hbl hbA hS (k_inl (by decide)) rfl dL_law_221 ?_
  refine lv_aload_n hx hb dL_law_222 rfl (lv_at hl 3 rfl) ?_
  refine lv_iload_n hx hb dL_law_223 rfl (lv_at hl 0 rfl) ?_
  refine lv_iconst (v := 2) hx hb dL_law_224 (by decide) ?_
  refine k_iadd (v := 2) hx hb dL_law_225 (by decide) ?_
  refine k_sld (v := (xs 2)) hx hb hX hbl hbA hS (k_inl (by decide)) rfl dL_law_226 ?_
  refine kJi (wr := [(h, .inr (11, [.ref ys, .ref yk, .ref yt, .int 0, .ref yf, .ref yb, .ref yz, .ref yn, .ref yc, .int 0, .ref yp, .ref yw, .int 0, .int 0, .int 0, .int 0, .int 0, .int 0, .int 0, .int 0, .int 0, .ref ye, .int 0, .int 0, .ref yx])), (ys, .inl (cI, 1201, .inl sI)), (yf, .inl (cI, 6, .inl (fun _ => (0 : Int32))))]) (va_runV (As := [.int (xs 1), .int (xs 2)]) (rest := []) ⟨hx, hb, hml, hown, hT⟩ (c_X10_rain l D cI x nw kp fu ra kr rd wd ld mt vo sh fd w0 w1 w2 w3 w4 w5 H.size 0 (fun _ => (0 : Int32)) 0 40 0 (xs 1) (xs 2)) (cwV 2 hT (gV_in mw_334 mw_331 mw_332 mw_333 mw_1) rfl rfl rfl (by decide +kernel) ⟨Nat.le_of_ble_eq_true rfl, Nat.le_of_ble_eq_true rfl⟩) (kRecv (own := "") (q0 := 0) (ci := 10) hK hP hD hN rfl rfl [0, 1, 2, 3] rfl (by decide)) rfl rfl hl.1 rfl (lv_room (Nat.le_of_ble_eq_true rfl)) dL_law_227 ⟨Nat.le_of_ble_eq_true rfl, Nat.le_of_ble_eq_true rfl⟩) hP hD hS hA [0, 1, 2, 3] [4, 5, 6] rfl rfl (by decide) (by decide) (fun r_1 u_3 H locs w_2 hP hD hS => ?_)
  have hP : va_P D vwCl [(h, .inr (11, [.ref ys, .ref yk, .ref yt, .int 0, .ref yf, .ref yb, .ref yz, .ref yn, .ref yc, .int 0, .ref yp, .ref yw, .int 0, .int 0, .int 0, .int 0, .int 0, .int 0, .int 0, .int 0, .int 0, .ref ye, .int 0, .int 0, .ref yx])), (ys, .inl (cI, 1201, .inl sI)), (yf, .inl (cI, 6, .inl (fun _ => (0 : Int32))))] H := hP
  have hD : va_D A [(h, .inr (11, [.ref ys, .ref yk, .ref yt, .int 0, .ref yf, .ref yb, .ref yz, .ref yn, .ref yc, .int 0, .ref yp, .ref yw, .int 0, .int 0, .int 0, .int 0, .int 0, .int 0, .int 0, .int 0, .int 0, .ref ye, .int 0, .int 0, .ref yx])), (ys, .inl (cI, 1201, .inl sI)), (yf, .inl (cI, 6, .inl (fun _ => (0 : Int32))))] := hD
  have hr_1 := w_2
  have hr_1 : r_1 = sp_rain (xs 1) (xs 2) := hr_1
  have lo_r_1 := k_lo r_1
  have hi_r_1 := k_hi r_1
  refine lv_aload_n hx hb dL_law_230 rfl (lv_at hl 1 rfl) ?_
  refine lv_aload_n hx hb dL_law_231 rfl (lv_at hl 3 rfl) ?_
  refine lv_iload_n hx hb dL_law_232 rfl (lv_at hl 0 rfl) ?_
  refine lv_iconst (v := 1) hx hb dL_law_233 (by decide) ?_
  refine k_iadd (v := 1) hx hb dL_law_234 (by decide) ?_
  refine k_sld (v := (xs 1)) hx hb hX hbl hbA hS (k_inl (by decide)) rfl dL_law_235 ?_
  refine lv_aload_n hx hb dL_law_236 rfl (lv_at hl 3 rfl) ?_
  refine lv_iload_n hx hb dL_law_237 rfl (lv_at hl 0 rfl) ?_
  refine lv_iconst (v := 2) hx hb dL_law_238 (by decide) ?_
  refine k_iadd (v := 2) hx hb dL_law_239 (by decide) ?_
  refine k_sld (v := (xs 2)) hx hb hX hbl hbA hS (k_inl (by decide)) rfl dL_law_240 ?_
  refine kJi (wr := []) (va_runV (As := [.int (xs 1), .int (xs 2)]) (rest := [.int r_1]) ⟨hx, hb, hml, hown, hT⟩ (c_X11_rain l D cI h ys yk yt yf yb yz yn yc yp yw ye yx H.size 0 0 0 0 0 0 0 0 0 0 0 0 0 (fun _ => (0 : Int32)) (xs 1) (xs 2)) (cwV 2 hT (gV_in mw_1235 mw_1232 mw_1233 mw_1234 mw_12) rfl rfl rfl (by decide +kernel) ⟨Nat.le_of_ble_eq_true rfl, Nat.le_of_ble_eq_true rfl⟩) (kRecv (own := "") (q0 := 0) (ci := 11) hK hP hD hN rfl rfl [0, 1, 2] rfl (by decide)) rfl rfl hl.1 rfl (lv_room (Nat.le_of_ble_eq_true rfl)) dL_law_241 ⟨Nat.le_of_ble_eq_true rfl, Nat.le_of_ble_eq_true rfl⟩) hP hD hS hA [0, 1, 2] [] rfl rfl (by decide) (by decide) (fun r_4 u_6 H locs w_5 hP hD hS => ?_)
  have hP : va_P D vwCl [] H := hP
  have hD : va_D A [] := hD
  have hr_4 := w_5
  have hr_4 : r_4 = sp_rain (xs 1) (xs 2) := hr_4
  have lo_r_4 := k_lo r_4
  have hi_r_4 := k_hi r_4
  refine b_icmp_eq hx hb rfl rfl (tgt := 1780) dL_law_244 (by decide) (fun _ => ?_) (fun c_ne => by exfalso; exact c_ne (congrArg Int32.toInt (hr_1.trans hr_4.symm)))
  exact law_end l hx hb hr hlocks hA0 hX hbl hS (lv_sub hl [0, 3] rfl) (Nat.le_of_ble_eq_true rfl) (Nat.le_of_ble_eq_true rfl)
set_option maxHeartbeats 4000000 in
set_option maxRecDepth 100000 in
theorem law_1 {p : Program} {e : Env} {s : State} {m : MethodId} {below : List Frame} {meth : Method} {c : Code} (l : Launch) {b : Nat} {xs : Nat → Int32} {D : va_G} {cI : ClassId} {A : Nat → Prop} {x nw kp fu ra kr rd wd ld mt vo sh fd w0 w1 w2 w3 w4 w5 h ys yk yt yf yb yz yn yc yp yw ye yx : Nat} {H : Heap} {locs : List Loc} {ls : Array Slot} (hA0 : (fun q : Nat => s.heap.size ≤ q) = A) (C0 : lw_At p s m meth c b 7 xs) (hK : va_K D vwCl [(cI, .int)] s) (hN : kNW s) (hP : va_P D vwCl [(x, .inr (10, [.ref nw, .ref kp, .ref fu, .ref ra, .ref kr, .ref rd, .ref wd, .ref ld, .ref mt, .ref vo, .ref sh, .ref fd, .int 0])), (nw, .inr (9, [.ref w0, .ref w1, .ref w2, .ref w3, .ref w4, .ref w5, .int 0, .int 40, .int 0])), (w1, .inl (cI, 40, .inl (fun _ => (0 : Int32)))), (w2, .inl (cI, 40, .inl (fun _ => (0 : Int32)))), (fd, .inl (cI, 6, .inl (fun _ => (0 : Int32)))), (h, .inr (11, [.ref ys, .ref yk, .ref yt, .int 0, .ref yf, .ref yb, .ref yz, .ref yn, .ref yc, .int 0, .ref yp, .ref yw, .int 0, .int 0, .int 0, .int 0, .int 0, .int 0, .int 0, .int 0, .int 0, .ref ye, .int 0, .int 0, .ref yx])), (ys, .inl (cI, 1201, .inl sI)), (yf, .inl (cI, 6, .inl (fun _ => (0 : Int32))))] H) (hD : va_D A [(x, .inr (10, [.ref nw, .ref kp, .ref fu, .ref ra, .ref kr, .ref rd, .ref wd, .ref ld, .ref mt, .ref vo, .ref sh, .ref fd, .int 0])), (nw, .inr (9, [.ref w0, .ref w1, .ref w2, .ref w3, .ref w4, .ref w5, .int 0, .int 40, .int 0])), (w1, .inl (cI, 40, .inl (fun _ => (0 : Int32)))), (w2, .inl (cI, 40, .inl (fun _ => (0 : Int32)))), (fd, .inl (cI, 6, .inl (fun _ => (0 : Int32)))), (h, .inr (11, [.ref ys, .ref yk, .ref yt, .int 0, .ref yf, .ref yb, .ref yz, .ref yn, .ref yc, .int 0, .ref yp, .ref yw, .int 0, .int 0, .int 0, .int 0, .int 0, .int 0, .int 0, .int 0, .int 0, .ref ye, .int 0, .int 0, .ref yx])), (ys, .inl (cI, 1201, .inl sI)), (yf, .inl (cI, 6, .inl (fun _ => (0 : Int32))))]) (hS : va_S A s.heap H locs) (hl : lv_has ls 4 [(3, .int 0), (2, .ref h), (1, .ref x), (0, .ref b)]) : W p l e room_1 s m #[Value.ref b] below meth c H locs 98 13371 (lw_Z below #[Value.ref b] s) (F0 m 249 ls []) := by
  obtain ⟨hx, hb, hr, hml, hown, hts, hX, hbl, hlocks, hgv⟩ := C0
  have hT : ∀ w ∈ gT, w.before #[Value.ref b] s = true := fun w h => hts w (List.mem_filter.mp h).1
  have hown : s.vm.findClass RL = some m.cls := hown
  have hA : ∀ q : Nat, s.heap.size ≤ q → A q := fun q h => by rw [← hA0]; exact h
  have hbA : ¬ A b := by rw [← hA0]; exact Nat.not_le.mpr hbl
  refine lv_aload_n hx hb dL_law_249 rfl (lv_at hl 2 rfl) ?_
  refine lv_aload_n hx hb dL_law_250 rfl (lv_at hl 3 rfl) ?_
  refine lv_iload_n hx hb dL_law_251 rfl (lv_at hl 0 rfl) ?_
  refine lv_iconst (v := 1) hx hb dL_law_252 (by decide) ?_
  refine k_iadd (v := 1) hx hb dL_law_253 (by decide) ?_
  refine k_sld (v := (xs 1)) hx hb hX hbl hbA hS (k_inl (by decide)) rfl dL_law_254 ?_
  refine lv_aload_n hx hb dL_law_255 rfl (lv_at hl 3 rfl) ?_
  refine lv_iload_n hx hb dL_law_256 rfl (lv_at hl 0 rfl) ?_
  refine lv_iconst (v := 2) hx hb dL_law_257 (by decide) ?_
  refine k_iadd (v := 2) hx hb dL_law_258 (by decide) ?_
  refine k_sld (v := (xs 2)) hx hb hX hbl hbA hS (k_inl (by decide)) rfl dL_law_259 ?_
  refine lv_aload_n hx hb dL_law_260 rfl (lv_at hl 3 rfl) ?_
  refine lv_iload_n hx hb dL_law_261 rfl (lv_at hl 0 rfl) ?_
  refine lv_iconst (v := 3) hx hb dL_law_262 (by decide) ?_
  refine k_iadd (v := 3) hx hb dL_law_263 (by decide) ?_
  refine k_sld (v := (xs 3)) hx hb hX hbl hbA hS (k_inl (by decide)) rfl dL_law_264 ?_
  refine kJi (wr := [(h, .inr (11, [.ref ys, .ref yk, .ref yt, .int 0, .ref yf, .ref yb, .ref yz, .ref yn, .ref yc, .int 0, .ref yp, .ref yw, .int 0, .int 0, .int 0, .int 0, .int 0, .int 0, .int 0, .int 0, .int 0, .ref ye, .int 0, .int 0, .ref yx])), (ys, .inl (cI, 1201, .inl sI)), (yf, .inl (cI, 6, .inl (fun _ => (0 : Int32))))]) (va_runV (As := [.int (xs 1), .int (xs 2), .int (xs 3)]) (rest := []) ⟨hx, hb, hml, hown, hT⟩ (c_X10_land l D cI x nw kp fu ra kr rd wd ld mt vo sh fd w0 w1 w2 w3 w4 w5 H.size 0 (fun _ => (0 : Int32)) 0 40 0 (xs 1) (xs 2) (xs 3)) (cwV 3 hT (gV_in mw_343 mw_340 mw_341 mw_342 mw_1) rfl rfl rfl (by decide +kernel) ⟨Nat.le_of_ble_eq_true rfl, Nat.le_of_ble_eq_true rfl⟩) (kRecv (own := "") (q0 := 0) (ci := 10) hK hP hD hN rfl rfl [0, 1, 2, 3, 4] rfl (by decide)) rfl rfl hl.1 rfl (lv_room (Nat.le_of_ble_eq_true rfl)) dL_law_265 ⟨Nat.le_of_ble_eq_true rfl, Nat.le_of_ble_eq_true rfl⟩) hP hD hS hA [0, 1, 2, 3, 4] [5, 6, 7] rfl rfl (by decide) (by decide) (fun r_1 u_3 H locs w_2 hP hD hS => ?_)
  have hP : va_P D vwCl [(h, .inr (11, [.ref ys, .ref yk, .ref yt, .int 0, .ref yf, .ref yb, .ref yz, .ref yn, .ref yc, .int 0, .ref yp, .ref yw, .int 0, .int 0, .int 0, .int 0, .int 0, .int 0, .int 0, .int 0, .int 0, .ref ye, .int 0, .int 0, .ref yx])), (ys, .inl (cI, 1201, .inl sI)), (yf, .inl (cI, 6, .inl (fun _ => (0 : Int32))))] H := hP
  have hD : va_D A [(h, .inr (11, [.ref ys, .ref yk, .ref yt, .int 0, .ref yf, .ref yb, .ref yz, .ref yn, .ref yc, .int 0, .ref yp, .ref yw, .int 0, .int 0, .int 0, .int 0, .int 0, .int 0, .int 0, .int 0, .int 0, .ref ye, .int 0, .int 0, .ref yx])), (ys, .inl (cI, 1201, .inl sI)), (yf, .inl (cI, 6, .inl (fun _ => (0 : Int32))))] := hD
  have hr_1 := w_2
  have hr_1 : r_1 = sp_land (xs 1) (xs 2) (xs 3) := hr_1
  have lo_r_1 := k_lo r_1
  have hi_r_1 := k_hi r_1
  refine lv_aload_n hx hb dL_law_268 rfl (lv_at hl 1 rfl) ?_
  refine lv_aload_n hx hb dL_law_269 rfl (lv_at hl 3 rfl) ?_
  refine lv_iload_n hx hb dL_law_270 rfl (lv_at hl 0 rfl) ?_
  refine lv_iconst (v := 1) hx hb dL_law_271 (by decide) ?_
  refine k_iadd (v := 1) hx hb dL_law_272 (by decide) ?_
  refine k_sld (v := (xs 1)) hx hb hX hbl hbA hS (k_inl (by decide)) rfl dL_law_273 ?_
  refine lv_aload_n hx hb dL_law_274 rfl (lv_at hl 3 rfl) ?_
  refine lv_iload_n hx hb dL_law_275 rfl (lv_at hl 0 rfl) ?_
  refine lv_iconst (v := 2) hx hb dL_law_276 (by decide) ?_
  refine k_iadd (v := 2) hx hb dL_law_277 (by decide) ?_
  refine k_sld (v := (xs 2)) hx hb hX hbl hbA hS (k_inl (by decide)) rfl dL_law_278 ?_
  refine lv_aload_n hx hb dL_law_279 rfl (lv_at hl 3 rfl) ?_
  refine lv_iload_n hx hb dL_law_280 rfl (lv_at hl 0 rfl) ?_
  refine lv_iconst (v := 3) hx hb dL_law_281 (by decide) ?_
  refine k_iadd (v := 3) hx hb dL_law_282 (by decide) ?_
  refine k_sld (v := (xs 3)) hx hb hX hbl hbA hS (k_inl (by decide)) rfl dL_law_283 ?_
  refine kJi (wr := []) (va_runV (As := [.int (xs 1), .int (xs 2), .int (xs 3)]) (rest := [.int r_1]) ⟨hx, hb, hml, hown, hT⟩ (c_X11_land l D cI h ys yk yt yf yb yz yn yc yp yw ye yx H.size 0 0 0 0 0 0 0 0 0 0 0 0 0 (fun _ => (0 : Int32)) (xs 1) (xs 2) (xs 3)) (cwV 3 hT (gV_in mw_1248 mw_1245 mw_1246 mw_1247 mw_12) rfl rfl rfl (by decide +kernel) ⟨Nat.le_of_ble_eq_true rfl, Nat.le_of_ble_eq_true rfl⟩) (kRecv (own := "") (q0 := 0) (ci := 11) hK hP hD hN rfl rfl [0, 1, 2] rfl (by decide)) rfl rfl hl.1 rfl (lv_room (Nat.le_of_ble_eq_true rfl)) dL_law_284 ⟨Nat.le_of_ble_eq_true rfl, Nat.le_of_ble_eq_true rfl⟩) hP hD hS hA [0, 1, 2] [] rfl rfl (by decide) (by decide) (fun r_4 u_6 H locs w_5 hP hD hS => ?_)
  have hP : va_P D vwCl [] H := hP
  have hD : va_D A [] := hD
  have hr_4 := w_5
  have hr_4 : r_4 = sp_land (xs 1) (xs 2) (xs 3) := hr_4
  have lo_r_4 := k_lo r_4
  have hi_r_4 := k_hi r_4
  refine b_icmp_eq hx hb rfl rfl (tgt := 1780) dL_law_287 (by decide) (fun _ => ?_) (fun c_ne => by exfalso; exact c_ne (congrArg Int32.toInt (hr_1.trans hr_4.symm)))
  exact law_end l hx hb hr hlocks hA0 hX hbl hS (lv_sub hl [0, 3] rfl) (Nat.le_of_ble_eq_true rfl) (Nat.le_of_ble_eq_true rfl)
set_option maxHeartbeats 4000000 in
set_option maxRecDepth 100000 in
theorem law_2 {p : Program} {e : Env} {s : State} {m : MethodId} {below : List Frame} {meth : Method} {c : Code} (l : Launch) {b : Nat} {xs : Nat → Int32} {D : va_G} {cI : ClassId} {A : Nat → Prop} {x nw kp fu ra kr rd wd ld mt vo sh fd w0 w1 w2 w3 w4 w5 k0 k1 k2 k3 k4 k5 k6 k7 k8 h ys yk yt yf yb yz yn yc yp yw ye yx : Nat} {H : Heap} {locs : List Loc} {ls : Array Slot} (hA0 : (fun q : Nat => s.heap.size ≤ q) = A) (C0 : lw_At p s m meth c b 7 xs) (hK : va_K D vwCl [(cI, .int)] s) (hN : kNW s) (hP : va_P D vwCl [(x, .inr (10, [.ref nw, .ref kp, .ref fu, .ref ra, .ref kr, .ref rd, .ref wd, .ref ld, .ref mt, .ref vo, .ref sh, .ref fd, .int 0])), (nw, .inr (9, [.ref w0, .ref w1, .ref w2, .ref w3, .ref w4, .ref w5, .int 0, .int 40, .int 0])), (w4, .inr (8, [.ref k0, .ref k1, .ref k2, .ref k3, .ref k4, .ref k5, .ref k6, .ref k7, .ref k8, .int 0])), (k0, .inl (cI, 60, .inl (fun _ => (0 : Int32)))), (k1, .inl (cI, 60, .inl (fun _ => (0 : Int32)))), (k2, .inl (cI, 60, .inl (fun _ => (0 : Int32)))), (k3, .inl (cI, 60, .inl (fun _ => (0 : Int32)))), (k4, .inl (cI, 60, .inl (fun _ => (0 : Int32)))), (k5, .inl (cI, 60, .inl (fun _ => (0 : Int32)))), (k6, .inl (cI, 40, .inl (fun _ => (0 : Int32)))), (k7, .inl (cI, 40, .inl (fun _ => (0 : Int32)))), (k8, .inl (cI, 40, .inl (fun _ => (0 : Int32)))), (fd, .inl (cI, 6, .inl (fun _ => (0 : Int32)))), (h, .inr (11, [.ref ys, .ref yk, .ref yt, .int 0, .ref yf, .ref yb, .ref yz, .ref yn, .ref yc, .int 0, .ref yp, .ref yw, .int 0, .int 0, .int 0, .int 0, .int 0, .int 0, .int 0, .int 0, .int 0, .ref ye, .int 0, .int 0, .ref yx])), (ys, .inl (cI, 1201, .inl sI)), (yf, .inl (cI, 6, .inl (fun _ => (0 : Int32))))] H) (hD : va_D A [(x, .inr (10, [.ref nw, .ref kp, .ref fu, .ref ra, .ref kr, .ref rd, .ref wd, .ref ld, .ref mt, .ref vo, .ref sh, .ref fd, .int 0])), (nw, .inr (9, [.ref w0, .ref w1, .ref w2, .ref w3, .ref w4, .ref w5, .int 0, .int 40, .int 0])), (w4, .inr (8, [.ref k0, .ref k1, .ref k2, .ref k3, .ref k4, .ref k5, .ref k6, .ref k7, .ref k8, .int 0])), (k0, .inl (cI, 60, .inl (fun _ => (0 : Int32)))), (k1, .inl (cI, 60, .inl (fun _ => (0 : Int32)))), (k2, .inl (cI, 60, .inl (fun _ => (0 : Int32)))), (k3, .inl (cI, 60, .inl (fun _ => (0 : Int32)))), (k4, .inl (cI, 60, .inl (fun _ => (0 : Int32)))), (k5, .inl (cI, 60, .inl (fun _ => (0 : Int32)))), (k6, .inl (cI, 40, .inl (fun _ => (0 : Int32)))), (k7, .inl (cI, 40, .inl (fun _ => (0 : Int32)))), (k8, .inl (cI, 40, .inl (fun _ => (0 : Int32)))), (fd, .inl (cI, 6, .inl (fun _ => (0 : Int32)))), (h, .inr (11, [.ref ys, .ref yk, .ref yt, .int 0, .ref yf, .ref yb, .ref yz, .ref yn, .ref yc, .int 0, .ref yp, .ref yw, .int 0, .int 0, .int 0, .int 0, .int 0, .int 0, .int 0, .int 0, .int 0, .ref ye, .int 0, .int 0, .ref yx])), (ys, .inl (cI, 1201, .inl sI)), (yf, .inl (cI, 6, .inl (fun _ => (0 : Int32))))]) (hS : va_S A s.heap H locs) (hl : lv_has ls 4 [(3, .int 0), (2, .ref h), (1, .ref x), (0, .ref b)]) : W p l e room_1 s m #[Value.ref b] below meth c H locs 98 13371 (lw_Z below #[Value.ref b] s) (F0 m 292 ls []) := by
  obtain ⟨hx, hb, hr, hml, hown, hts, hX, hbl, hlocks, hgv⟩ := C0
  have hT : ∀ w ∈ gT, w.before #[Value.ref b] s = true := fun w h => hts w (List.mem_filter.mp h).1
  have hown : s.vm.findClass RL = some m.cls := hown
  have hA : ∀ q : Nat, s.heap.size ≤ q → A q := fun q h => by rw [← hA0]; exact h
  have hbA : ¬ A b := by rw [← hA0]; exact Nat.not_le.mpr hbl
  refine lv_aload_n hx hb dL_law_292 rfl (lv_at hl 2 rfl) ?_
  refine lv_aload_n hx hb dL_law_293 rfl (lv_at hl 3 rfl) ?_
  refine lv_iload_n hx hb dL_law_294 rfl (lv_at hl 0 rfl) ?_
  refine lv_iconst (v := 1) hx hb dL_law_295 (by decide) ?_
  refine k_iadd (v := 1) hx hb dL_law_296 (by decide) ?_
  refine k_sld (v := (xs 1)) hx hb hX hbl hbA hS (k_inl (by decide)) rfl dL_law_297 ?_
  refine lv_aload_n hx hb dL_law_298 rfl (lv_at hl 3 rfl) ?_
  refine lv_iload_n hx hb dL_law_299 rfl (lv_at hl 0 rfl) ?_
  refine lv_iconst (v := 2) hx hb dL_law_300 (by decide) ?_
  refine k_iadd (v := 2) hx hb dL_law_301 (by decide) ?_
  refine k_sld (v := (xs 2)) hx hb hX hbl hbA hS (k_inl (by decide)) rfl dL_law_302 ?_
  refine lv_aload_n hx hb dL_law_303 rfl (lv_at hl 3 rfl) ?_
  refine lv_iload_n hx hb dL_law_304 rfl (lv_at hl 0 rfl) ?_
  refine lv_iconst (v := 3) hx hb dL_law_305 (by decide) ?_
  refine k_iadd (v := 3) hx hb dL_law_306 (by decide) ?_
  refine k_sld (v := (xs 3)) hx hb hX hbl hbA hS (k_inl (by decide)) rfl dL_law_307 ?_
  refine kJi (wr := [(h, .inr (11, [.ref ys, .ref yk, .ref yt, .int 0, .ref yf, .ref yb, .ref yz, .ref yn, .ref yc, .int 0, .ref yp, .ref yw, .int 0, .int 0, .int 0, .int 0, .int 0, .int 0, .int 0, .int 0, .int 0, .ref ye, .int 0, .int 0, .ref yx])), (ys, .inl (cI, 1201, .inl sI)), (yf, .inl (cI, 6, .inl (fun _ => (0 : Int32))))]) (va_runV (As := [.int (xs 1), .int (xs 2), .int (xs 3)]) (rest := []) ⟨hx, hb, hml, hown, hT⟩ (c_X10_work l D cI x nw kp fu ra kr rd wd ld mt vo sh fd w0 w1 w2 w3 w4 w5 k0 k1 k2 k3 k4 k5 k6 k7 k8 H.size 0 (fun _ => (0 : Int32)) 0 40 0 (xs 1) (xs 2) (xs 3)) (cwV 3 hT (gV_in mw_350 mw_347 mw_348 mw_349 mw_1) rfl rfl rfl (by decide +kernel) ⟨Nat.le_of_ble_eq_true rfl, Nat.le_of_ble_eq_true rfl⟩) (kRecv (own := "") (q0 := 0) (ci := 10) hK hP hD hN rfl rfl [0, 1, 2, 3, 4, 5, 6, 7, 8, 9, 10, 11, 12] rfl (by decide)) rfl rfl hl.1 rfl (lv_room (Nat.le_of_ble_eq_true rfl)) dL_law_308 ⟨Nat.le_of_ble_eq_true rfl, Nat.le_of_ble_eq_true rfl⟩) hP hD hS hA [0, 1, 2, 3, 4, 5, 6, 7, 8, 9, 10, 11, 12] [13, 14, 15] rfl rfl (by decide) (by decide) (fun r_1 u_3 H locs w_2 hP hD hS => ?_)
  have hP : va_P D vwCl [(h, .inr (11, [.ref ys, .ref yk, .ref yt, .int 0, .ref yf, .ref yb, .ref yz, .ref yn, .ref yc, .int 0, .ref yp, .ref yw, .int 0, .int 0, .int 0, .int 0, .int 0, .int 0, .int 0, .int 0, .int 0, .ref ye, .int 0, .int 0, .ref yx])), (ys, .inl (cI, 1201, .inl sI)), (yf, .inl (cI, 6, .inl (fun _ => (0 : Int32))))] H := hP
  have hD : va_D A [(h, .inr (11, [.ref ys, .ref yk, .ref yt, .int 0, .ref yf, .ref yb, .ref yz, .ref yn, .ref yc, .int 0, .ref yp, .ref yw, .int 0, .int 0, .int 0, .int 0, .int 0, .int 0, .int 0, .int 0, .int 0, .ref ye, .int 0, .int 0, .ref yx])), (ys, .inl (cI, 1201, .inl sI)), (yf, .inl (cI, 6, .inl (fun _ => (0 : Int32))))] := hD
  have hr_1 := w_2
  have hr_1 : r_1 = sp_work (xs 1) (xs 2) (xs 3) := hr_1
  have lo_r_1 := k_lo r_1
  have hi_r_1 := k_hi r_1
  refine lv_aload_n hx hb dL_law_311 rfl (lv_at hl 1 rfl) ?_
  refine lv_aload_n hx hb dL_law_312 rfl (lv_at hl 3 rfl) ?_
  refine lv_iload_n hx hb dL_law_313 rfl (lv_at hl 0 rfl) ?_
  refine lv_iconst (v := 1) hx hb dL_law_314 (by decide) ?_
  refine k_iadd (v := 1) hx hb dL_law_315 (by decide) ?_
  refine k_sld (v := (xs 1)) hx hb hX hbl hbA hS (k_inl (by decide)) rfl dL_law_316 ?_
  refine lv_aload_n hx hb dL_law_317 rfl (lv_at hl 3 rfl) ?_
  refine lv_iload_n hx hb dL_law_318 rfl (lv_at hl 0 rfl) ?_
  refine lv_iconst (v := 2) hx hb dL_law_319 (by decide) ?_
  refine k_iadd (v := 2) hx hb dL_law_320 (by decide) ?_
  refine k_sld (v := (xs 2)) hx hb hX hbl hbA hS (k_inl (by decide)) rfl dL_law_321 ?_
  refine lv_aload_n hx hb dL_law_322 rfl (lv_at hl 3 rfl) ?_
  refine lv_iload_n hx hb dL_law_323 rfl (lv_at hl 0 rfl) ?_
  refine lv_iconst (v := 3) hx hb dL_law_324 (by decide) ?_
  refine k_iadd (v := 3) hx hb dL_law_325 (by decide) ?_
  refine k_sld (v := (xs 3)) hx hb hX hbl hbA hS (k_inl (by decide)) rfl dL_law_326 ?_
  refine kJi (wr := []) (va_runV (As := [.int (xs 1), .int (xs 2), .int (xs 3)]) (rest := [.int r_1]) ⟨hx, hb, hml, hown, hT⟩ (c_X11_work_ l D cI h ys yk yt yf yb yz yn yc yp yw ye yx H.size 0 0 0 0 0 0 0 0 0 0 0 0 0 (fun _ => (0 : Int32)) (xs 1) (xs 2) (xs 3)) (cwV 3 hT (gV_in mw_1255 mw_1252 mw_1253 mw_1254 mw_12) rfl rfl rfl (by decide +kernel) ⟨Nat.le_of_ble_eq_true rfl, Nat.le_of_ble_eq_true rfl⟩) (kRecv (own := "") (q0 := 0) (ci := 11) hK hP hD hN rfl rfl [0, 1, 2] rfl (by decide)) rfl rfl hl.1 rfl (lv_room (Nat.le_of_ble_eq_true rfl)) dL_law_327 ⟨Nat.le_of_ble_eq_true rfl, Nat.le_of_ble_eq_true rfl⟩) hP hD hS hA [0, 1, 2] [] rfl rfl (by decide) (by decide) (fun r_4 u_6 H locs w_5 hP hD hS => ?_)
  have hP : va_P D vwCl [] H := hP
  have hD : va_D A [] := hD
  have hr_4 := w_5
  have hr_4 : r_4 = sp_work (xs 1) (xs 2) (xs 3) := hr_4
  have lo_r_4 := k_lo r_4
  have hi_r_4 := k_hi r_4
  refine b_icmp_eq hx hb rfl rfl (tgt := 1780) dL_law_330 (by decide) (fun _ => ?_) (fun c_ne => by exfalso; exact c_ne (congrArg Int32.toInt (hr_1.trans hr_4.symm)))
  exact law_end l hx hb hr hlocks hA0 hX hbl hS (lv_sub hl [0, 3] rfl) (Nat.le_of_ble_eq_true rfl) (Nat.le_of_ble_eq_true rfl)
set_option maxHeartbeats 4000000 in
set_option maxRecDepth 100000 in
theorem law_3 {p : Program} {e : Env} {s : State} {m : MethodId} {below : List Frame} {meth : Method} {c : Code} (l : Launch) {b : Nat} {xs : Nat → Int32} {D : va_G} {cI : ClassId} {A : Nat → Prop} {x nw kp fu ra kr rd wd ld mt vo sh fd w0 w1 w2 w3 w4 w5 k0 k1 k2 k3 k4 k5 k6 k7 k8 h ys yk yt yf yb yz yn yc yp yw ye yx : Nat} {H : Heap} {locs : List Loc} {ls : Array Slot} (hA0 : (fun q : Nat => s.heap.size ≤ q) = A) (C0 : lw_At p s m meth c b 7 xs) (hK : va_K D vwCl [(cI, .int)] s) (hN : kNW s) (hP : va_P D vwCl [(x, .inr (10, [.ref nw, .ref kp, .ref fu, .ref ra, .ref kr, .ref rd, .ref wd, .ref ld, .ref mt, .ref vo, .ref sh, .ref fd, .int 0])), (nw, .inr (9, [.ref w0, .ref w1, .ref w2, .ref w3, .ref w4, .ref w5, .int 0, .int 40, .int 0])), (w4, .inr (8, [.ref k0, .ref k1, .ref k2, .ref k3, .ref k4, .ref k5, .ref k6, .ref k7, .ref k8, .int 0])), (fd, .inl (cI, 6, .inl (fun _ => (0 : Int32)))), (h, .inr (11, [.ref ys, .ref yk, .ref yt, .int 0, .ref yf, .ref yb, .ref yz, .ref yn, .ref yc, .int 0, .ref yp, .ref yw, .int 0, .int 0, .int 0, .int 0, .int 0, .int 0, .int 0, .int 0, .int 0, .ref ye, .int 0, .int 0, .ref yx])), (ys, .inl (cI, 1201, .inl sI)), (yf, .inl (cI, 6, .inl (fun _ => (0 : Int32))))] H) (hD : va_D A [(x, .inr (10, [.ref nw, .ref kp, .ref fu, .ref ra, .ref kr, .ref rd, .ref wd, .ref ld, .ref mt, .ref vo, .ref sh, .ref fd, .int 0])), (nw, .inr (9, [.ref w0, .ref w1, .ref w2, .ref w3, .ref w4, .ref w5, .int 0, .int 40, .int 0])), (w4, .inr (8, [.ref k0, .ref k1, .ref k2, .ref k3, .ref k4, .ref k5, .ref k6, .ref k7, .ref k8, .int 0])), (fd, .inl (cI, 6, .inl (fun _ => (0 : Int32)))), (h, .inr (11, [.ref ys, .ref yk, .ref yt, .int 0, .ref yf, .ref yb, .ref yz, .ref yn, .ref yc, .int 0, .ref yp, .ref yw, .int 0, .int 0, .int 0, .int 0, .int 0, .int 0, .int 0, .int 0, .int 0, .ref ye, .int 0, .int 0, .ref yx])), (ys, .inl (cI, 1201, .inl sI)), (yf, .inl (cI, 6, .inl (fun _ => (0 : Int32))))]) (hS : va_S A s.heap H locs) (hl : lv_has ls 4 [(3, .int 0), (2, .ref h), (1, .ref x), (0, .ref b)]) : W p l e room_1 s m #[Value.ref b] below meth c H locs 98 13371 (lw_Z below #[Value.ref b] s) (F0 m 335 ls []) := by
  obtain ⟨hx, hb, hr, hml, hown, hts, hX, hbl, hlocks, hgv⟩ := C0
  have hT : ∀ w ∈ gT, w.before #[Value.ref b] s = true := fun w h => hts w (List.mem_filter.mp h).1
  have hown : s.vm.findClass RL = some m.cls := hown
  have hA : ∀ q : Nat, s.heap.size ≤ q → A q := fun q h => by rw [← hA0]; exact h
  have hbA : ¬ A b := by rw [← hA0]; exact Nat.not_le.mpr hbl
  refine lv_aload_n hx hb dL_law_335 rfl (lv_at hl 2 rfl) ?_
  refine lv_aload_n hx hb dL_law_336 rfl (lv_at hl 3 rfl) ?_
  refine lv_iload_n hx hb dL_law_337 rfl (lv_at hl 0 rfl) ?_
  refine lv_iconst (v := 1) hx hb dL_law_338 (by decide) ?_
  refine k_iadd (v := 1) hx hb dL_law_339 (by decide) ?_
  refine k_sld (v := (xs 1)) hx hb hX hbl hbA hS (k_inl (by decide)) rfl dL_law_340 ?_
  refine lv_aload_n hx hb dL_law_341 rfl (lv_at hl 3 rfl) ?_
  refine lv_iload_n hx hb dL_law_342 rfl (lv_at hl 0 rfl) ?_
  refine lv_iconst (v := 2) hx hb dL_law_343 (by decide) ?_
  refine k_iadd (v := 2) hx hb dL_law_344 (by decide) ?_
  refine k_sld (v := (xs 2)) hx hb hX hbl hbA hS (k_inl (by decide)) rfl dL_law_345 ?_
  refine kJi (wr := [(h, .inr (11, [.ref ys, .ref yk, .ref yt, .int 0, .ref yf, .ref yb, .ref yz, .ref yn, .ref yc, .int 0, .ref yp, .ref yw, .int 0, .int 0, .int 0, .int 0, .int 0, .int 0, .int 0, .int 0, .int 0, .ref ye, .int 0, .int 0, .ref yx])), (ys, .inl (cI, 1201, .inl sI)), (yf, .inl (cI, 6, .inl (fun _ => (0 : Int32))))]) (va_runV (As := [.int (xs 1), .int (xs 2)]) (rest := []) ⟨hx, hb, hml, hown, hT⟩ (c_X10_as l D cI x nw kp fu ra kr rd wd ld mt vo sh fd w0 w1 w2 w3 w4 w5 k0 k1 k2 k3 k4 k5 k6 k7 k8 H.size 0 (fun _ => (0 : Int32)) 0 40 0 (xs 1) (xs 2)) (cwV 2 hT (gV_in mw_379 mw_376 mw_377 mw_378 mw_1) rfl rfl rfl (by decide +kernel) ⟨Nat.le_of_ble_eq_true rfl, Nat.le_of_ble_eq_true rfl⟩) (kRecv (own := "") (q0 := 0) (ci := 10) hK hP hD hN rfl rfl [0, 1, 2, 3] rfl (by decide)) rfl rfl hl.1 rfl (lv_room (Nat.le_of_ble_eq_true rfl)) dL_law_346 ⟨Nat.le_of_ble_eq_true rfl, Nat.le_of_ble_eq_true rfl⟩) hP hD hS hA [0, 1, 2, 3] [4, 5, 6] rfl rfl (by decide) (by decide) (fun r_1 u_3 H locs w_2 hP hD hS => ?_)
  have hP : va_P D vwCl [(h, .inr (11, [.ref ys, .ref yk, .ref yt, .int 0, .ref yf, .ref yb, .ref yz, .ref yn, .ref yc, .int 0, .ref yp, .ref yw, .int 0, .int 0, .int 0, .int 0, .int 0, .int 0, .int 0, .int 0, .int 0, .ref ye, .int 0, .int 0, .ref yx])), (ys, .inl (cI, 1201, .inl sI)), (yf, .inl (cI, 6, .inl (fun _ => (0 : Int32))))] H := hP
  have hD : va_D A [(h, .inr (11, [.ref ys, .ref yk, .ref yt, .int 0, .ref yf, .ref yb, .ref yz, .ref yn, .ref yc, .int 0, .ref yp, .ref yw, .int 0, .int 0, .int 0, .int 0, .int 0, .int 0, .int 0, .int 0, .int 0, .ref ye, .int 0, .int 0, .ref yx])), (ys, .inl (cI, 1201, .inl sI)), (yf, .inl (cI, 6, .inl (fun _ => (0 : Int32))))] := hD
  have hr_1 := w_2
  obtain rfl : r_1 = (-1000001) := hr_1.trans (by decide)
  refine lv_aload_n hx hb dL_law_349 rfl (lv_at hl 1 rfl) ?_
  refine lv_aload_n hx hb dL_law_350 rfl (lv_at hl 3 rfl) ?_
  refine lv_iload_n hx hb dL_law_351 rfl (lv_at hl 0 rfl) ?_
  refine lv_iconst (v := 1) hx hb dL_law_352 (by decide) ?_
  refine k_iadd (v := 1) hx hb dL_law_353 (by decide) ?_
  refine k_sld (v := (xs 1)) hx hb hX hbl hbA hS (k_inl (by decide)) rfl dL_law_354 ?_
  refine lv_aload_n hx hb dL_law_355 rfl (lv_at hl 3 rfl) ?_
  refine lv_iload_n hx hb dL_law_356 rfl (lv_at hl 0 rfl) ?_
  refine lv_iconst (v := 2) hx hb dL_law_357 (by decide) ?_
  refine k_iadd (v := 2) hx hb dL_law_358 (by decide) ?_
  refine k_sld (v := (xs 2)) hx hb hX hbl hbA hS (k_inl (by decide)) rfl dL_law_359 ?_
  refine kJi (wr := []) (va_runV (As := [.int (xs 1), .int (xs 2)]) (rest := [.int (-1000001)]) ⟨hx, hb, hml, hown, hT⟩ (c_X11_as l D cI h ys yk yt yf yb yz yn yc yp yw ye yx H.size 0 0 0 0 0 0 0 0 0 0 0 0 0 (fun _ => (0 : Int32)) (xs 1) (xs 2)) (cwV 2 hT (gV_in mw_1268 mw_1265 mw_1266 mw_1267 mw_12) rfl rfl rfl (by decide +kernel) ⟨Nat.le_of_ble_eq_true rfl, Nat.le_of_ble_eq_true rfl⟩) (kRecv (own := "") (q0 := 0) (ci := 11) hK hP hD hN rfl rfl [0, 1, 2] rfl (by decide)) rfl rfl hl.1 rfl (lv_room (Nat.le_of_ble_eq_true rfl)) dL_law_360 ⟨Nat.le_of_ble_eq_true rfl, Nat.le_of_ble_eq_true rfl⟩) hP hD hS hA [0, 1, 2] [] rfl rfl (by decide) (by decide) (fun r_4 u_6 H locs w_5 hP hD hS => ?_)
  have hP : va_P D vwCl [] H := hP
  have hD : va_D A [] := hD
  have hr_4 := w_5
  obtain rfl : r_4 = (-1000001) := hr_4.trans (by decide)
  refine b_icmp_eq hx hb zl_m1000001 zl_m1000001 (tgt := 1780) dL_law_363 (by decide) (fun c_7 => ?_) (fun c_7 => by exfalso; omega)
  exact law_end l hx hb hr hlocks hA0 hX hbl hS (lv_sub hl [0, 3] rfl) (Nat.le_of_ble_eq_true rfl) (Nat.le_of_ble_eq_true rfl)
set_option maxHeartbeats 4000000 in
set_option maxRecDepth 100000 in
theorem law_4 {p : Program} {e : Env} {s : State} {m : MethodId} {below : List Frame} {meth : Method} {c : Code} (l : Launch) {b : Nat} {xs : Nat → Int32} {D : va_G} {cI : ClassId} {A : Nat → Prop} {x nw kp fu ra kr rd wd ld mt vo sh fd w0 w1 w2 w3 w4 w5 k0 k1 k2 k3 k4 k5 k6 k7 k8 h ys yk yt yf yb yz yn yc yp yw ye yx : Nat} {H : Heap} {locs : List Loc} {ls : Array Slot} (hA0 : (fun q : Nat => s.heap.size ≤ q) = A) (C0 : lw_At p s m meth c b 7 xs) (hK : va_K D vwCl [(cI, .int)] s) (hN : kNW s) (hP : va_P D vwCl [(x, .inr (10, [.ref nw, .ref kp, .ref fu, .ref ra, .ref kr, .ref rd, .ref wd, .ref ld, .ref mt, .ref vo, .ref sh, .ref fd, .int 0])), (nw, .inr (9, [.ref w0, .ref w1, .ref w2, .ref w3, .ref w4, .ref w5, .int 0, .int 40, .int 0])), (w4, .inr (8, [.ref k0, .ref k1, .ref k2, .ref k3, .ref k4, .ref k5, .ref k6, .ref k7, .ref k8, .int 0])), (fd, .inl (cI, 6, .inl (fun _ => (0 : Int32)))), (h, .inr (11, [.ref ys, .ref yk, .ref yt, .int 0, .ref yf, .ref yb, .ref yz, .ref yn, .ref yc, .int 0, .ref yp, .ref yw, .int 0, .int 0, .int 0, .int 0, .int 0, .int 0, .int 0, .int 0, .int 0, .ref ye, .int 0, .int 0, .ref yx])), (ys, .inl (cI, 1201, .inl sI)), (yf, .inl (cI, 6, .inl (fun _ => (0 : Int32))))] H) (hD : va_D A [(x, .inr (10, [.ref nw, .ref kp, .ref fu, .ref ra, .ref kr, .ref rd, .ref wd, .ref ld, .ref mt, .ref vo, .ref sh, .ref fd, .int 0])), (nw, .inr (9, [.ref w0, .ref w1, .ref w2, .ref w3, .ref w4, .ref w5, .int 0, .int 40, .int 0])), (w4, .inr (8, [.ref k0, .ref k1, .ref k2, .ref k3, .ref k4, .ref k5, .ref k6, .ref k7, .ref k8, .int 0])), (fd, .inl (cI, 6, .inl (fun _ => (0 : Int32)))), (h, .inr (11, [.ref ys, .ref yk, .ref yt, .int 0, .ref yf, .ref yb, .ref yz, .ref yn, .ref yc, .int 0, .ref yp, .ref yw, .int 0, .int 0, .int 0, .int 0, .int 0, .int 0, .int 0, .int 0, .int 0, .ref ye, .int 0, .int 0, .ref yx])), (ys, .inl (cI, 1201, .inl sI)), (yf, .inl (cI, 6, .inl (fun _ => (0 : Int32))))]) (hS : va_S A s.heap H locs) (hl : lv_has ls 4 [(3, .int 0), (2, .ref h), (1, .ref x), (0, .ref b)]) : W p l e room_1 s m #[Value.ref b] below meth c H locs 98 13371 (lw_Z below #[Value.ref b] s) (F0 m 368 ls []) := by
  obtain ⟨hx, hb, hr, hml, hown, hts, hX, hbl, hlocks, hgv⟩ := C0
  have hT : ∀ w ∈ gT, w.before #[Value.ref b] s = true := fun w h => hts w (List.mem_filter.mp h).1
  have hown : s.vm.findClass RL = some m.cls := hown
  have hA : ∀ q : Nat, s.heap.size ≤ q → A q := fun q h => by rw [← hA0]; exact h
  have hbA : ¬ A b := by rw [← hA0]; exact Nat.not_le.mpr hbl
  refine lv_aload_n hx hb dL_law_368 rfl (lv_at hl 2 rfl) ?_
  refine lv_aload_n hx hb dL_law_369 rfl (lv_at hl 3 rfl) ?_
  refine lv_iload_n hx hb dL_law_370 rfl (lv_at hl 0 rfl) ?_
  refine lv_iconst (v := 1) hx hb dL_law_371 (by decide) ?_
  refine k_iadd (v := 1) hx hb dL_law_372 (by decide) ?_
  refine k_sld (v := (xs 1)) hx hb hX hbl hbA hS (k_inl (by decide)) rfl dL_law_373 ?_
  refine lv_aload_n hx hb dL_law_374 rfl (lv_at hl 3 rfl) ?_
  refine lv_iload_n hx hb dL_law_375 rfl (lv_at hl 0 rfl) ?_
  refine lv_iconst (v := 2) hx hb dL_law_376 (by decide) ?_
  refine k_iadd (v := 2) hx hb dL_law_377 (by decide) ?_
  refine k_sld (v := (xs 2)) hx hb hX hbl hbA hS (k_inl (by decide)) rfl dL_law_378 ?_
  refine kJi (wr := [(h, .inr (11, [.ref ys, .ref yk, .ref yt, .int 0, .ref yf, .ref yb, .ref yz, .ref yn, .ref yc, .int 0, .ref yp, .ref yw, .int 0, .int 0, .int 0, .int 0, .int 0, .int 0, .int 0, .int 0, .int 0, .ref ye, .int 0, .int 0, .ref yx])), (ys, .inl (cI, 1201, .inl sI)), (yf, .inl (cI, 6, .inl (fun _ => (0 : Int32))))]) (va_runV (As := [.int (xs 1), .int (xs 2)]) (rest := []) ⟨hx, hb, hml, hown, hT⟩ (c_X10_workIs l D cI x nw kp fu ra kr rd wd ld mt vo sh fd w0 w1 w2 w3 w4 w5 k0 k1 k2 k3 k4 k5 k6 k7 k8 H.size 0 (fun _ => (0 : Int32)) 0 40 0 (xs 1) (xs 2)) (cwV 2 hT (gV_in mw_398 mw_395 mw_396 mw_397 mw_1) rfl rfl rfl (by decide +kernel) ⟨Nat.le_of_ble_eq_true rfl, Nat.le_of_ble_eq_true rfl⟩) (kRecv (own := "") (q0 := 0) (ci := 10) hK hP hD hN rfl rfl [0, 1, 2, 3] rfl (by decide)) rfl rfl hl.1 rfl (lv_room (Nat.le_of_ble_eq_true rfl)) dL_law_379 ⟨Nat.le_of_ble_eq_true rfl, Nat.le_of_ble_eq_true rfl⟩) hP hD hS hA [0, 1, 2, 3] [4, 5, 6] rfl rfl (by decide) (by decide) (fun r_1 u_3 H locs w_2 hP hD hS => ?_)
  have hP : va_P D vwCl [(h, .inr (11, [.ref ys, .ref yk, .ref yt, .int 0, .ref yf, .ref yb, .ref yz, .ref yn, .ref yc, .int 0, .ref yp, .ref yw, .int 0, .int 0, .int 0, .int 0, .int 0, .int 0, .int 0, .int 0, .int 0, .ref ye, .int 0, .int 0, .ref yx])), (ys, .inl (cI, 1201, .inl sI)), (yf, .inl (cI, 6, .inl (fun _ => (0 : Int32))))] H := hP
  have hD : va_D A [(h, .inr (11, [.ref ys, .ref yk, .ref yt, .int 0, .ref yf, .ref yb, .ref yz, .ref yn, .ref yc, .int 0, .ref yp, .ref yw, .int 0, .int 0, .int 0, .int 0, .int 0, .int 0, .int 0, .int 0, .int 0, .ref ye, .int 0, .int 0, .ref yx])), (ys, .inl (cI, 1201, .inl sI)), (yf, .inl (cI, 6, .inl (fun _ => (0 : Int32))))] := hD
  have hr_1 := w_2
  obtain rfl : r_1 = (-1000001) := hr_1.trans (by decide)
  refine lv_aload_n hx hb dL_law_382 rfl (lv_at hl 1 rfl) ?_
  refine lv_aload_n hx hb dL_law_383 rfl (lv_at hl 3 rfl) ?_
  refine lv_iload_n hx hb dL_law_384 rfl (lv_at hl 0 rfl) ?_
  refine lv_iconst (v := 1) hx hb dL_law_385 (by decide) ?_
  refine k_iadd (v := 1) hx hb dL_law_386 (by decide) ?_
  refine k_sld (v := (xs 1)) hx hb hX hbl hbA hS (k_inl (by decide)) rfl dL_law_387 ?_
  refine lv_aload_n hx hb dL_law_388 rfl (lv_at hl 3 rfl) ?_
  refine lv_iload_n hx hb dL_law_389 rfl (lv_at hl 0 rfl) ?_
  refine lv_iconst (v := 2) hx hb dL_law_390 (by decide) ?_
  refine k_iadd (v := 2) hx hb dL_law_391 (by decide) ?_
  refine k_sld (v := (xs 2)) hx hb hX hbl hbA hS (k_inl (by decide)) rfl dL_law_392 ?_
  refine kJi (wr := []) (va_runV (As := [.int (xs 1), .int (xs 2)]) (rest := [.int (-1000001)]) ⟨hx, hb, hml, hown, hT⟩ (c_X11_workIs l D cI h ys yk yt yf yb yz yn yc yp yw ye yx H.size 0 0 0 0 0 0 0 0 0 0 0 0 0 (fun _ => (0 : Int32)) (xs 1) (xs 2)) (cwV 2 hT (gV_in mw_1287 mw_1284 mw_1285 mw_1286 mw_12) rfl rfl rfl (by decide +kernel) ⟨Nat.le_of_ble_eq_true rfl, Nat.le_of_ble_eq_true rfl⟩) (kRecv (own := "") (q0 := 0) (ci := 11) hK hP hD hN rfl rfl [0, 1, 2] rfl (by decide)) rfl rfl hl.1 rfl (lv_room (Nat.le_of_ble_eq_true rfl)) dL_law_393 ⟨Nat.le_of_ble_eq_true rfl, Nat.le_of_ble_eq_true rfl⟩) hP hD hS hA [0, 1, 2] [] rfl rfl (by decide) (by decide) (fun r_4 u_6 H locs w_5 hP hD hS => ?_)
  have hP : va_P D vwCl [] H := hP
  have hD : va_D A [] := hD
  have hr_4 := w_5
  obtain rfl : r_4 = (-1000001) := hr_4.trans (by decide)
  refine b_icmp_eq hx hb zl_m1000001 zl_m1000001 (tgt := 1780) dL_law_396 (by decide) (fun c_7 => ?_) (fun c_7 => by exfalso; omega)
  exact law_end l hx hb hr hlocks hA0 hX hbl hS (lv_sub hl [0, 3] rfl) (Nat.le_of_ble_eq_true rfl) (Nat.le_of_ble_eq_true rfl)
set_option maxHeartbeats 4000000 in
set_option maxRecDepth 100000 in
theorem law_5 {p : Program} {e : Env} {s : State} {m : MethodId} {below : List Frame} {meth : Method} {c : Code} (l : Launch) {b : Nat} {xs : Nat → Int32} {D : va_G} {cI : ClassId} {A : Nat → Prop} {x nw kp fu ra kr rd wd ld mt vo sh fd w0 w1 w2 w3 w4 w5 k0 k1 k2 k3 k4 k5 k6 k7 k8 h ys yk yt yf yb yz yn yc yp yw ye yx : Nat} {H : Heap} {locs : List Loc} {ls : Array Slot} (hA0 : (fun q : Nat => s.heap.size ≤ q) = A) (C0 : lw_At p s m meth c b 7 xs) (hK : va_K D vwCl [(cI, .int)] s) (hN : kNW s) (hP : va_P D vwCl [(x, .inr (10, [.ref nw, .ref kp, .ref fu, .ref ra, .ref kr, .ref rd, .ref wd, .ref ld, .ref mt, .ref vo, .ref sh, .ref fd, .int 0])), (nw, .inr (9, [.ref w0, .ref w1, .ref w2, .ref w3, .ref w4, .ref w5, .int 0, .int 40, .int 0])), (w4, .inr (8, [.ref k0, .ref k1, .ref k2, .ref k3, .ref k4, .ref k5, .ref k6, .ref k7, .ref k8, .int 0])), (fd, .inl (cI, 6, .inl (fun _ => (0 : Int32)))), (h, .inr (11, [.ref ys, .ref yk, .ref yt, .int 0, .ref yf, .ref yb, .ref yz, .ref yn, .ref yc, .int 0, .ref yp, .ref yw, .int 0, .int 0, .int 0, .int 0, .int 0, .int 0, .int 0, .int 0, .int 0, .ref ye, .int 0, .int 0, .ref yx])), (ys, .inl (cI, 1201, .inl sI)), (yf, .inl (cI, 6, .inl (fun _ => (0 : Int32))))] H) (hD : va_D A [(x, .inr (10, [.ref nw, .ref kp, .ref fu, .ref ra, .ref kr, .ref rd, .ref wd, .ref ld, .ref mt, .ref vo, .ref sh, .ref fd, .int 0])), (nw, .inr (9, [.ref w0, .ref w1, .ref w2, .ref w3, .ref w4, .ref w5, .int 0, .int 40, .int 0])), (w4, .inr (8, [.ref k0, .ref k1, .ref k2, .ref k3, .ref k4, .ref k5, .ref k6, .ref k7, .ref k8, .int 0])), (fd, .inl (cI, 6, .inl (fun _ => (0 : Int32)))), (h, .inr (11, [.ref ys, .ref yk, .ref yt, .int 0, .ref yf, .ref yb, .ref yz, .ref yn, .ref yc, .int 0, .ref yp, .ref yw, .int 0, .int 0, .int 0, .int 0, .int 0, .int 0, .int 0, .int 0, .int 0, .ref ye, .int 0, .int 0, .ref yx])), (ys, .inl (cI, 1201, .inl sI)), (yf, .inl (cI, 6, .inl (fun _ => (0 : Int32))))]) (hS : va_S A s.heap H locs) (hl : lv_has ls 4 [(3, .int 0), (2, .ref h), (1, .ref x), (0, .ref b)]) : W p l e room_1 s m #[Value.ref b] below meth c H locs 98 13371 (lw_Z below #[Value.ref b] s) (F0 m 401 ls []) := by
  obtain ⟨hx, hb, hr, hml, hown, hts, hX, hbl, hlocks, hgv⟩ := C0
  have hT : ∀ w ∈ gT, w.before #[Value.ref b] s = true := fun w h => hts w (List.mem_filter.mp h).1
  have hown : s.vm.findClass RL = some m.cls := hown
  have hA : ∀ q : Nat, s.heap.size ≤ q → A q := fun q h => by rw [← hA0]; exact h
  have hbA : ¬ A b := by rw [← hA0]; exact Nat.not_le.mpr hbl
  refine lv_aload_n hx hb dL_law_401 rfl (lv_at hl 2 rfl) ?_
  refine lv_aload_n hx hb dL_law_402 rfl (lv_at hl 3 rfl) ?_
  refine lv_iload_n hx hb dL_law_403 rfl (lv_at hl 0 rfl) ?_
  refine lv_iconst (v := 1) hx hb dL_law_404 (by decide) ?_
  refine k_iadd (v := 1) hx hb dL_law_405 (by decide) ?_
  refine k_sld (v := (xs 1)) hx hb hX hbl hbA hS (k_inl (by decide)) rfl dL_law_406 ?_
  refine kJi (wr := [(h, .inr (11, [.ref ys, .ref yk, .ref yt, .int 0, .ref yf, .ref yb, .ref yz, .ref yn, .ref yc, .int 0, .ref yp, .ref yw, .int 0, .int 0, .int 0, .int 0, .int 0, .int 0, .int 0, .int 0, .int 0, .ref ye, .int 0, .int 0, .ref yx])), (ys, .inl (cI, 1201, .inl sI)), (yf, .inl (cI, 6, .inl (fun _ => (0 : Int32))))]) (va_runV (As := [.int (xs 1)]) (rest := []) ⟨hx, hb, hml, hown, hT⟩ (c_X10_fell l D cI x nw kp fu ra kr rd wd ld mt vo sh fd w0 w1 w2 w3 w4 w5 k0 k1 k2 k3 k4 k5 k6 k7 k8 H.size 0 (fun _ => (0 : Int32)) 0 40 0 (xs 1)) (cwV 1 hT (gV_in mw_599 mw_596 mw_597 mw_598 mw_1) rfl rfl rfl (by decide +kernel) ⟨Nat.le_of_ble_eq_true rfl, Nat.le_of_ble_eq_true rfl⟩) (kRecv (own := "") (q0 := 0) (ci := 10) hK hP hD hN rfl rfl [0, 1, 2, 3] rfl (by decide)) rfl rfl hl.1 rfl (lv_room (Nat.le_of_ble_eq_true rfl)) dL_law_407 ⟨Nat.le_of_ble_eq_true rfl, Nat.le_of_ble_eq_true rfl⟩) hP hD hS hA [0, 1, 2, 3] [4, 5, 6] rfl rfl (by decide) (by decide) (fun r_1 u_3 H locs w_2 hP hD hS => ?_)
  have hP : va_P D vwCl [(h, .inr (11, [.ref ys, .ref yk, .ref yt, .int 0, .ref yf, .ref yb, .ref yz, .ref yn, .ref yc, .int 0, .ref yp, .ref yw, .int 0, .int 0, .int 0, .int 0, .int 0, .int 0, .int 0, .int 0, .int 0, .ref ye, .int 0, .int 0, .ref yx])), (ys, .inl (cI, 1201, .inl sI)), (yf, .inl (cI, 6, .inl (fun _ => (0 : Int32))))] H := hP
  have hD : va_D A [(h, .inr (11, [.ref ys, .ref yk, .ref yt, .int 0, .ref yf, .ref yb, .ref yz, .ref yn, .ref yc, .int 0, .ref yp, .ref yw, .int 0, .int 0, .int 0, .int 0, .int 0, .int 0, .int 0, .int 0, .int 0, .ref ye, .int 0, .int 0, .ref yx])), (ys, .inl (cI, 1201, .inl sI)), (yf, .inl (cI, 6, .inl (fun _ => (0 : Int32))))] := hD
  have hr_1 := w_2
  obtain rfl : r_1 = (-1000001) := hr_1.trans (by decide)
  refine lv_aload_n hx hb dL_law_410 rfl (lv_at hl 1 rfl) ?_
  refine lv_aload_n hx hb dL_law_411 rfl (lv_at hl 3 rfl) ?_
  refine lv_iload_n hx hb dL_law_412 rfl (lv_at hl 0 rfl) ?_
  refine lv_iconst (v := 1) hx hb dL_law_413 (by decide) ?_
  refine k_iadd (v := 1) hx hb dL_law_414 (by decide) ?_
  refine k_sld (v := (xs 1)) hx hb hX hbl hbA hS (k_inl (by decide)) rfl dL_law_415 ?_
  refine kJi (wr := []) (va_runV (As := [.int (xs 1)]) (rest := [.int (-1000001)]) ⟨hx, hb, hml, hown, hT⟩ (c_X11_fell l D cI h ys yk yt yf yb yz yn yc yp yw ye yx H.size 0 0 0 0 0 0 0 0 0 0 0 0 0 (fun _ => (0 : Int32)) (xs 1)) (cwV 1 hT (gV_in mw_1355 mw_1352 mw_1353 mw_1354 mw_12) rfl rfl rfl (by decide +kernel) ⟨Nat.le_of_ble_eq_true rfl, Nat.le_of_ble_eq_true rfl⟩) (kRecv (own := "") (q0 := 0) (ci := 11) hK hP hD hN rfl rfl [0, 1, 2] rfl (by decide)) rfl rfl hl.1 rfl (lv_room (Nat.le_of_ble_eq_true rfl)) dL_law_416 ⟨Nat.le_of_ble_eq_true rfl, Nat.le_of_ble_eq_true rfl⟩) hP hD hS hA [0, 1, 2] [] rfl rfl (by decide) (by decide) (fun r_4 u_6 H locs w_5 hP hD hS => ?_)
  have hP : va_P D vwCl [] H := hP
  have hD : va_D A [] := hD
  have hr_4 := w_5
  obtain rfl : r_4 = (-1000001) := hr_4.trans (by decide)
  refine b_icmp_eq hx hb zl_m1000001 zl_m1000001 (tgt := 1780) dL_law_419 (by decide) (fun c_7 => ?_) (fun c_7 => by exfalso; omega)
  exact law_end l hx hb hr hlocks hA0 hX hbl hS (lv_sub hl [0, 3] rfl) (Nat.le_of_ble_eq_true rfl) (Nat.le_of_ble_eq_true rfl)
