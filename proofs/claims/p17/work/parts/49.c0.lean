set_option maxRecDepth 100000 in
set_option maxHeartbeats 4000000 in
theorem lc_0 {g : gT} {h : mh_T} {Q : Nat × Nat} (i : Int32) (k : Nat) (ei : i.toInt = (k : Int)) (hk : k + 7 ≤ gN g) (hN : gN g ≤ 3584) (hJ : JJ h) (he : RR h) (hq : Q.1 ≤ 601024 ∧ Q.2 ≤ 7293034) (K : ∀ h', JJ h' → RR h' → LE g uL 1583 [.ref 900, .ref 0, .ref 11, .ref 61, .int i, .retAddr 0, .retAddr 0] [] h' Q) : LE g uL 256 [.ref 900, .ref 0, .ref 11, .ref 61, .int i, .retAddr 0, .retAddr 0] [] h Q := by
  have hin1 : vp_in (i + 1) (gN g) := l_in ei (c := 1) (d := 1) (by decide) (by omega) (by omega)
  have hin2 : vp_in (i + 2) (gN g) := l_in ei (c := 2) (d := 2) (by decide) (by omega) (by omega)
  have hin3 : vp_in (i + 3) (gN g) := l_in ei (c := 3) (d := 3) (by decide) (by omega) (by omega)
  have hin4 : vp_in (i + 4) (gN g) := l_in ei (c := 4) (d := 4) (by decide) (by omega) (by omega)
  have hin5 : vp_in (i + 5) (gN g) := l_in ei (c := 5) (d := 5) (by decide) (by omega) (by omega)
  refine l_aload_n dL_law_256 rfl ?_
  refine l_aload_n dL_law_257 rfl ?_
  refine l_iload dL_law_258 rfl ?_
  refine l_iconst (v := 1) dL_law_260 (by decide) ?_
  refine l_iadd dL_law_261 ?_
  refine l_sld dL_law_262 hin1 ?_
  refine l_aload_n dL_law_263 rfl ?_
  refine l_iload dL_law_264 rfl ?_
  refine l_iconst (v := 2) dL_law_266 (by decide) ?_
  refine l_iadd dL_law_267 ?_
  refine l_sld dL_law_268 hin2 ?_
  refine l_aload_n dL_law_269 rfl ?_
  refine l_iload dL_law_270 rfl ?_
  refine l_iconst (v := 3) dL_law_272 (by decide) ?_
  refine l_iadd dL_law_273 ?_
  refine l_sld dL_law_274 hin3 ?_
  refine l_aload_n dL_law_275 rfl ?_
  refine l_iload dL_law_276 rfl ?_
  refine l_iconst (v := 4) dL_law_278 (by decide) ?_
  refine l_iadd dL_law_279 ?_
  refine l_sld dL_law_280 hin4 ?_
  refine l_aload_n dL_law_281 rfl ?_
  refine l_iload dL_law_282 rfl ?_
  refine l_iconst (v := 5) dL_law_284 (by decide) ?_
  refine l_iadd dL_law_285 ?_
  refine l_sld dL_law_286 hin5 ?_
  refine cl_L_19 dL_law_287 hq (Nat.le_of_ble_eq_true rfl) (LCi_go (P := fun r h' => LE g uL 290 [.ref 900, .ref 0, .ref 11, .ref 61, .int i, .retAddr 0, .retAddr 0] (.int r :: []) h' Q) ?_ (fun _ _ q => q))
  refine k_X10_feed (gx g (i + 1).toNatClampNeg) (gx g (i + 2).toNatClampNeg) (gx g (i + 3).toNatClampNeg) (gx g (i + 4).toNatClampNeg) (gx g (i + 5).toNatClampNeg) hJ (fun r1 h1 hJ1 s1 => ?_)
  refine l_pop dL_law_290 rfl ?_
  refine l_aload_n dL_law_291 rfl ?_
  refine l_aload_n dL_law_292 rfl ?_
  refine l_iload dL_law_293 rfl ?_
  refine l_iconst (v := 1) dL_law_295 (by decide) ?_
  refine l_iadd dL_law_296 ?_
  refine l_sld dL_law_297 hin1 ?_
  refine l_aload_n dL_law_298 rfl ?_
  refine l_iload dL_law_299 rfl ?_
  refine l_iconst (v := 2) dL_law_301 (by decide) ?_
  refine l_iadd dL_law_302 ?_
  refine l_sld dL_law_303 hin2 ?_
  refine l_aload_n dL_law_304 rfl ?_
  refine l_iload dL_law_305 rfl ?_
  refine l_iconst (v := 3) dL_law_307 (by decide) ?_
  refine l_iadd dL_law_308 ?_
  refine l_sld dL_law_309 hin3 ?_
  refine l_aload_n dL_law_310 rfl ?_
  refine l_iload dL_law_311 rfl ?_
  refine l_iconst (v := 4) dL_law_313 (by decide) ?_
  refine l_iadd dL_law_314 ?_
  refine l_sld dL_law_315 hin4 ?_
  refine l_aload_n dL_law_316 rfl ?_
  refine l_iload dL_law_317 rfl ?_
  refine l_iconst (v := 5) dL_law_319 (by decide) ?_
  refine l_iadd dL_law_320 ?_
  refine l_sld dL_law_321 hin5 ?_
  refine cl_L_23 dL_law_322 hq (Nat.le_of_ble_eq_true rfl) (LCi_go (P := fun r h' => LE g uL 325 [.ref 900, .ref 0, .ref 11, .ref 61, .int i, .retAddr 0, .retAddr 0] (.int r :: []) h' Q) ?_ (fun _ _ q => q))
  refine k_X11_feed (gx g (i + 1).toNatClampNeg) (gx g (i + 2).toNatClampNeg) (gx g (i + 3).toNatClampNeg) (gx g (i + 4).toNatClampNeg) (gx g (i + 5).toNatClampNeg) hJ1 (fun r2 h2 hJ2 s2 => ?_)
  refine l_pop dL_law_325 rfl ?_
  refine l_goto 1583 dL_law_326 (by decide) ?_
  exact K h2 hJ2 (feed_RR hJ hJ1 he s1 s2)
set_option maxRecDepth 100000 in
set_option maxHeartbeats 4000000 in
theorem lc_1 {g : gT} {h : mh_T} {Q : Nat × Nat} (i : Int32) (k : Nat) (ei : i.toInt = (k : Int)) (hk : k + 7 ≤ gN g) (hN : gN g ≤ 3584) (hJ : JJ h) (he : RR h) (hq : Q.1 ≤ 601024 ∧ Q.2 ≤ 7293034) (K : ∀ h', JJ h' → RR h' → LE g uL 1583 [.ref 900, .ref 0, .ref 11, .ref 61, .int i, .retAddr 0, .retAddr 0] [] h' Q) : LE g uL 329 [.ref 900, .ref 0, .ref 11, .ref 61, .int i, .retAddr 0, .retAddr 0] [] h Q := by
  have hin1 : vp_in (i + 1) (gN g) := l_in ei (c := 1) (d := 1) (by decide) (by omega) (by omega)
  refine l_aload_n dL_law_329 rfl ?_
  refine l_aload_n dL_law_330 rfl ?_
  refine l_iload dL_law_331 rfl ?_
  refine l_iconst (v := 1) dL_law_333 (by decide) ?_
  refine l_iadd dL_law_334 ?_
  refine l_sld dL_law_335 hin1 ?_
  refine cl_L_24 dL_law_336 hq (Nat.le_of_ble_eq_true rfl) (LCi_go (P := fun r h' => LE g uL 339 [.ref 900, .ref 0, .ref 11, .ref 61, .int i, .retAddr 0, .retAddr 0] (.int r :: []) h' Q) ?_ (fun _ _ q => q))
  refine k_X10_book (gx g (i + 1).toNatClampNeg) hJ (fun r1 h1 hJ1 s1 => ?_)
  refine l_pop dL_law_339 rfl ?_
  refine l_aload_n dL_law_340 rfl ?_
  refine l_aload_n dL_law_341 rfl ?_
  refine l_iload dL_law_342 rfl ?_
  refine l_iconst (v := 1) dL_law_344 (by decide) ?_
  refine l_iadd dL_law_345 ?_
  refine l_sld dL_law_346 hin1 ?_
  refine cl_L_27 dL_law_347 hq (Nat.le_of_ble_eq_true rfl) (LCi_go (P := fun r h' => LE g uL 350 [.ref 900, .ref 0, .ref 11, .ref 61, .int i, .retAddr 0, .retAddr 0] (.int r :: []) h' Q) ?_ (fun _ _ q => q))
  refine k_X11_book (gx g (i + 1).toNatClampNeg) (T := fun j => mI h 12 j) hJ1 (book_T he s1) (fun r2 h2 hJ2 s2 => ?_)
  refine l_pop dL_law_350 rfl ?_
  refine l_goto 1583 dL_law_351 (by decide) ?_
  exact K h2 hJ2 (book_RR hJ hJ1 hJ2 he s1 s2)
set_option maxRecDepth 100000 in
set_option maxHeartbeats 4000000 in
theorem lc_2 {g : gT} {h : mh_T} {Q : Nat × Nat} (i : Int32) (k : Nat) (ei : i.toInt = (k : Int)) (hk : k + 7 ≤ gN g) (hN : gN g ≤ 3584) (hJ : JJ h) (he : RR h) (hq : Q.1 ≤ 601024 ∧ Q.2 ≤ 7293034) (K : ∀ h', JJ h' → RR h' → LE g uL 1583 [.ref 900, .ref 0, .ref 11, .ref 61, .int i, .retAddr 0, .retAddr 0] [] h' Q) : LE g uL 354 [.ref 900, .ref 0, .ref 11, .ref 61, .int i, .retAddr 0, .retAddr 0] [] h Q := by
  refine l_aload_n dL_law_354 rfl ?_
  refine cl_L_28 dL_law_355 hq (Nat.le_of_ble_eq_true rfl) (LCi_go (P := fun r h' => LE g uL 358 [.ref 900, .ref 0, .ref 11, .ref 61, .int i, .retAddr 0, .retAddr 0] (.int r :: []) h' Q) ?_ (fun _ _ q => q))
  refine k_X10_fault  hJ (fun r1 h1 hJ1 s1 => ?_)
  refine l_pop dL_law_358 rfl ?_
  refine l_aload_n dL_law_359 rfl ?_
  refine cl_L_32 dL_law_360 hq (Nat.le_of_ble_eq_true rfl) (LCi_go (P := fun r h' => LE g uL 363 [.ref 900, .ref 0, .ref 11, .ref 61, .int i, .retAddr 0, .retAddr 0] (.int r :: []) h' Q) ?_ (fun _ _ q => q))
  refine k_X11_fault  hJ1 (fun r2 h2 hJ2 s2 => ?_)
  refine l_pop dL_law_363 rfl ?_
  refine l_goto 1583 dL_law_364 (by decide) ?_
  exact K h2 hJ2 (RR_s hJ1 s2 (RR_s hJ s1 he))
set_option maxRecDepth 100000 in
set_option maxHeartbeats 4000000 in
theorem lc_3 {g : gT} {h : mh_T} {Q : Nat × Nat} (i : Int32) (k : Nat) (ei : i.toInt = (k : Int)) (hk : k + 7 ≤ gN g) (hN : gN g ≤ 3584) (hJ : JJ h) (he : RR h) (hq : Q.1 ≤ 601024 ∧ Q.2 ≤ 7293034) (K : ∀ h', JJ h' → RR h' → LE g uL 1583 [.ref 900, .ref 0, .ref 11, .ref 61, .int i, .retAddr 0, .retAddr 0] [] h' Q) : LE g uL 367 [.ref 900, .ref 0, .ref 11, .ref 61, .int i, .retAddr 0, .retAddr 0] [] h Q := by
  refine l_aload_n dL_law_367 rfl ?_
  refine cl_L_33 dL_law_368 hq (Nat.le_of_ble_eq_true rfl) (LCi_go (P := fun r h' => LE g uL 371 [.ref 900, .ref 0, .ref 11, .ref 61, .int i, .retAddr 0, .retAddr 0] (.int r :: []) h' Q) ?_ (fun _ _ q => q))
  refine k_X10_where  hJ (fun r1 h1 hJ1 s1 => ?_)
  refine l_pop dL_law_371 rfl ?_
  refine l_aload_n dL_law_372 rfl ?_
  refine cl_L_36 dL_law_373 hq (Nat.le_of_ble_eq_true rfl) (LCi_go (P := fun r h' => LE g uL 376 [.ref 900, .ref 0, .ref 11, .ref 61, .int i, .retAddr 0, .retAddr 0] (.int r :: []) h' Q) ?_ (fun _ _ q => q))
  refine k_X11_where  hJ1 (fun r2 h2 hJ2 s2 => ?_)
  refine l_pop dL_law_376 rfl ?_
  refine l_goto 1583 dL_law_377 (by decide) ?_
  exact K h2 hJ2 (RR_s hJ1 s2 (RR_s hJ s1 he))
set_option maxRecDepth 100000 in
set_option maxHeartbeats 4000000 in
theorem lc_4 {g : gT} {h : mh_T} {Q : Nat × Nat} (i : Int32) (k : Nat) (ei : i.toInt = (k : Int)) (hk : k + 7 ≤ gN g) (hN : gN g ≤ 3584) (hJ : JJ h) (he : RR h) (hq : Q.1 ≤ 601024 ∧ Q.2 ≤ 7293034) (K : ∀ h', JJ h' → RR h' → LE g uL 1583 [.ref 900, .ref 0, .ref 11, .ref 61, .int i, .retAddr 0, .retAddr 0] [] h' Q) : LE g uL 380 [.ref 900, .ref 0, .ref 11, .ref 61, .int i, .retAddr 0, .retAddr 0] [] h Q := by
  have hin1 : vp_in (i + 1) (gN g) := l_in ei (c := 1) (d := 1) (by decide) (by omega) (by omega)
  refine l_aload_n dL_law_380 rfl ?_
  refine l_aload_n dL_law_381 rfl ?_
  refine l_iload dL_law_382 rfl ?_
  refine l_iconst (v := 1) dL_law_384 (by decide) ?_
  refine l_iadd dL_law_385 ?_
  refine l_sld dL_law_386 hin1 ?_
  suffices hj1 : ∀ v1 : Int32, v1 = (if (gx g (i + 1).toNatClampNeg) = 0 then 0 else 1) → LE g uL 395 [.ref 900, .ref 0, .ref 11, .ref 61, .int i, .retAddr 0, .retAddr 0] [.int v1, .ref 0] h Q from l_if_eq 394 dL_law_387 (by decide) (fun z => l_iconst (v := 0) dL_law_394 (by decide) (hj1 0 (if_pos z).symm)) (fun z => l_iconst (v := 1) dL_law_390 (by decide) (l_goto 395 dL_law_391 (by decide) (hj1 1 (if_neg z).symm)))
  intro v1 hv1
  refine cl_L_37 dL_law_395 hq (Nat.le_of_ble_eq_true rfl) (LCi_go (P := fun r h' => LE g uL 398 [.ref 900, .ref 0, .ref 11, .ref 61, .int i, .retAddr 0, .retAddr 0] (.int r :: []) h' Q) ?_ (fun _ _ q => q))
  refine k_X10_share v1 hJ (fun r1 h1 hJ1 s1 => ?_)
  refine l_pop dL_law_398 rfl ?_
  refine l_aload_n dL_law_399 rfl ?_
  refine l_aload_n dL_law_400 rfl ?_
  refine l_iload dL_law_401 rfl ?_
  refine l_iconst (v := 1) dL_law_403 (by decide) ?_
  refine l_iadd dL_law_404 ?_
  refine l_sld dL_law_405 hin1 ?_
  suffices hj2 : ∀ v2 : Int32, v2 = (if (gx g (i + 1).toNatClampNeg) = 0 then 0 else 1) → LE g uL 414 [.ref 900, .ref 0, .ref 11, .ref 61, .int i, .retAddr 0, .retAddr 0] [.int v2, .ref 11] h1 Q from l_if_eq 413 dL_law_406 (by decide) (fun z => l_iconst (v := 0) dL_law_413 (by decide) (hj2 0 (if_pos z).symm)) (fun z => l_iconst (v := 1) dL_law_409 (by decide) (l_goto 414 dL_law_410 (by decide) (hj2 1 (if_neg z).symm)))
  intro v2 hv2
  rw [show v2 = v1 from hv2.trans hv1.symm]
  refine cl_L_41 dL_law_414 hq (Nat.le_of_ble_eq_true rfl) (LCi_go (P := fun r h' => LE g uL 417 [.ref 900, .ref 0, .ref 11, .ref 61, .int i, .retAddr 0, .retAddr 0] (.int r :: []) h' Q) ?_ (fun _ _ q => q))
  refine k_X11_share v1 hJ1 (fun r2 h2 hJ2 s2 => ?_)
  refine l_pop dL_law_417 rfl ?_
  refine l_goto 1583 dL_law_418 (by decide) ?_
  exact K h2 hJ2 (RR_s hJ1 s2 (RR_s hJ s1 he))
set_option maxRecDepth 100000 in
set_option maxHeartbeats 4000000 in
theorem lc_5 {g : gT} {h : mh_T} {Q : Nat × Nat} (i : Int32) (k : Nat) (ei : i.toInt = (k : Int)) (hk : k + 7 ≤ gN g) (hN : gN g ≤ 3584) (hJ : JJ h) (he : RR h) (hq : Q.1 ≤ 601024 ∧ Q.2 ≤ 7293034) (K : ∀ h', JJ h' → RR h' → LE g uL 1583 [.ref 900, .ref 0, .ref 11, .ref 61, .int i, .retAddr 0, .retAddr 0] [] h' Q) : LE g uL 421 [.ref 900, .ref 0, .ref 11, .ref 61, .int i, .retAddr 0, .retAddr 0] [] h Q := by
  have hin1 : vp_in (i + 1) (gN g) := l_in ei (c := 1) (d := 1) (by decide) (by omega) (by omega)
  have hin2 : vp_in (i + 2) (gN g) := l_in ei (c := 2) (d := 2) (by decide) (by omega) (by omega)
  have hin3 : vp_in (i + 3) (gN g) := l_in ei (c := 3) (d := 3) (by decide) (by omega) (by omega)
  have hin4 : vp_in (i + 4) (gN g) := l_in ei (c := 4) (d := 4) (by decide) (by omega) (by omega)
  have hin5 : vp_in (i + 5) (gN g) := l_in ei (c := 5) (d := 5) (by decide) (by omega) (by omega)
  have hin6 : vp_in (i + 6) (gN g) := l_in ei (c := 6) (d := 6) (by decide) (by omega) (by omega)
  refine l_aload_n dL_law_421 rfl ?_
  refine l_aload_n dL_law_422 rfl ?_
  refine l_iload dL_law_423 rfl ?_
  refine l_iconst (v := 1) dL_law_425 (by decide) ?_
  refine l_iadd dL_law_426 ?_
  refine l_sld dL_law_427 hin1 ?_
  refine l_aload_n dL_law_428 rfl ?_
  refine l_iload dL_law_429 rfl ?_
  refine l_iconst (v := 2) dL_law_431 (by decide) ?_
  refine l_iadd dL_law_432 ?_
  refine l_sld dL_law_433 hin2 ?_
  refine l_aload_n dL_law_434 rfl ?_
  refine l_iload dL_law_435 rfl ?_
  refine l_iconst (v := 3) dL_law_437 (by decide) ?_
  refine l_iadd dL_law_438 ?_
  refine l_sld dL_law_439 hin3 ?_
  refine l_aload_n dL_law_440 rfl ?_
  refine l_iload dL_law_441 rfl ?_
  refine l_iconst (v := 4) dL_law_443 (by decide) ?_
  refine l_iadd dL_law_444 ?_
  refine l_sld dL_law_445 hin4 ?_
  refine l_aload_n dL_law_446 rfl ?_
  refine l_iload dL_law_447 rfl ?_
  refine l_iconst (v := 5) dL_law_449 (by decide) ?_
  refine l_iadd dL_law_450 ?_
  refine l_sld dL_law_451 hin5 ?_
  suffices hj1 : ∀ v1 : Int32, v1 = (if (gx g (i + 5).toNatClampNeg) = 0 then 0 else 1) → LE g uL 460 [.ref 900, .ref 0, .ref 11, .ref 61, .int i, .retAddr 0, .retAddr 0] [.int v1, .int (gx g (i + 4).toNatClampNeg), .int (gx g (i + 3).toNatClampNeg), .int (gx g (i + 2).toNatClampNeg), .int (gx g (i + 1).toNatClampNeg), .ref 0] h Q from l_if_eq 459 dL_law_452 (by decide) (fun z => l_iconst (v := 0) dL_law_459 (by decide) (hj1 0 (if_pos z).symm)) (fun z => l_iconst (v := 1) dL_law_455 (by decide) (l_goto 460 dL_law_456 (by decide) (hj1 1 (if_neg z).symm)))
  intro v1 hv1
  refine l_aload_n dL_law_460 rfl ?_
  refine l_iload dL_law_461 rfl ?_
  refine l_bipush (v := 6) dL_law_463 (by decide) ?_
  refine l_iadd dL_law_465 ?_
  refine l_sld dL_law_466 hin6 ?_
  suffices hj2 : ∀ v2 : Int32, v2 = (if (gx g (i + 6).toNatClampNeg) = 0 then 0 else 1) → LE g uL 475 [.ref 900, .ref 0, .ref 11, .ref 61, .int i, .retAddr 0, .retAddr 0] [.int v2, .int v1, .int (gx g (i + 4).toNatClampNeg), .int (gx g (i + 3).toNatClampNeg), .int (gx g (i + 2).toNatClampNeg), .int (gx g (i + 1).toNatClampNeg), .ref 0] h Q from l_if_eq 474 dL_law_467 (by decide) (fun z => l_iconst (v := 0) dL_law_474 (by decide) (hj2 0 (if_pos z).symm)) (fun z => l_iconst (v := 1) dL_law_470 (by decide) (l_goto 475 dL_law_471 (by decide) (hj2 1 (if_neg z).symm)))
  intro v2 hv2
  refine cl_L_42 dL_law_475 hq (Nat.le_of_ble_eq_true rfl) (LCi_go (P := fun r h' => LE g uL 478 [.ref 900, .ref 0, .ref 11, .ref 61, .int i, .retAddr 0, .retAddr 0] (.int r :: []) h' Q) ?_ (fun _ _ q => q))
  refine k_X10_together (gx g (i + 1).toNatClampNeg) (gx g (i + 2).toNatClampNeg) (gx g (i + 3).toNatClampNeg) (gx g (i + 4).toNatClampNeg) v1 v2 hJ (fun r1 h1 hJ1 s1 => ?_)
  refine l_pop dL_law_478 rfl ?_
  refine l_aload_n dL_law_479 rfl ?_
  refine l_aload_n dL_law_480 rfl ?_
  refine l_iload dL_law_481 rfl ?_
  refine l_iconst (v := 1) dL_law_483 (by decide) ?_
  refine l_iadd dL_law_484 ?_
  refine l_sld dL_law_485 hin1 ?_
  refine l_aload_n dL_law_486 rfl ?_
  refine l_iload dL_law_487 rfl ?_
  refine l_iconst (v := 2) dL_law_489 (by decide) ?_
  refine l_iadd dL_law_490 ?_
  refine l_sld dL_law_491 hin2 ?_
  refine l_aload_n dL_law_492 rfl ?_
  refine l_iload dL_law_493 rfl ?_
  refine l_iconst (v := 3) dL_law_495 (by decide) ?_
  refine l_iadd dL_law_496 ?_
  refine l_sld dL_law_497 hin3 ?_
  refine l_aload_n dL_law_498 rfl ?_
  refine l_iload dL_law_499 rfl ?_
  refine l_iconst (v := 4) dL_law_501 (by decide) ?_
  refine l_iadd dL_law_502 ?_
  refine l_sld dL_law_503 hin4 ?_
  refine l_aload_n dL_law_504 rfl ?_
  refine l_iload dL_law_505 rfl ?_
  refine l_iconst (v := 5) dL_law_507 (by decide) ?_
  refine l_iadd dL_law_508 ?_
  refine l_sld dL_law_509 hin5 ?_
  suffices hj3 : ∀ v3 : Int32, v3 = (if (gx g (i + 5).toNatClampNeg) = 0 then 0 else 1) → LE g uL 518 [.ref 900, .ref 0, .ref 11, .ref 61, .int i, .retAddr 0, .retAddr 0] [.int v3, .int (gx g (i + 4).toNatClampNeg), .int (gx g (i + 3).toNatClampNeg), .int (gx g (i + 2).toNatClampNeg), .int (gx g (i + 1).toNatClampNeg), .ref 11] h1 Q from l_if_eq 517 dL_law_510 (by decide) (fun z => l_iconst (v := 0) dL_law_517 (by decide) (hj3 0 (if_pos z).symm)) (fun z => l_iconst (v := 1) dL_law_513 (by decide) (l_goto 518 dL_law_514 (by decide) (hj3 1 (if_neg z).symm)))
  intro v3 hv3
  rw [show v3 = v1 from hv3.trans hv1.symm]
  refine l_aload_n dL_law_518 rfl ?_
  refine l_iload dL_law_519 rfl ?_
  refine l_bipush (v := 6) dL_law_521 (by decide) ?_
  refine l_iadd dL_law_523 ?_
  refine l_sld dL_law_524 hin6 ?_
  suffices hj4 : ∀ v4 : Int32, v4 = (if (gx g (i + 6).toNatClampNeg) = 0 then 0 else 1) → LE g uL 533 [.ref 900, .ref 0, .ref 11, .ref 61, .int i, .retAddr 0, .retAddr 0] [.int v4, .int v1, .int (gx g (i + 4).toNatClampNeg), .int (gx g (i + 3).toNatClampNeg), .int (gx g (i + 2).toNatClampNeg), .int (gx g (i + 1).toNatClampNeg), .ref 11] h1 Q from l_if_eq 532 dL_law_525 (by decide) (fun z => l_iconst (v := 0) dL_law_532 (by decide) (hj4 0 (if_pos z).symm)) (fun z => l_iconst (v := 1) dL_law_528 (by decide) (l_goto 533 dL_law_529 (by decide) (hj4 1 (if_neg z).symm)))
  intro v4 hv4
  rw [show v4 = v2 from hv4.trans hv2.symm]
  refine cl_L_46 dL_law_533 hq (Nat.le_of_ble_eq_true rfl) (LCi_go (P := fun r h' => LE g uL 536 [.ref 900, .ref 0, .ref 11, .ref 61, .int i, .retAddr 0, .retAddr 0] (.int r :: []) h' Q) ?_ (fun _ _ q => q))
  refine k_X11_together (gx g (i + 1).toNatClampNeg) (gx g (i + 2).toNatClampNeg) (gx g (i + 3).toNatClampNeg) (gx g (i + 4).toNatClampNeg) v1 v2 hJ1 (fun r2 h2 hJ2 s2 => ?_)
  refine l_pop dL_law_536 rfl ?_
  refine l_goto 1583 dL_law_537 (by decide) ?_
  exact K h2 hJ2 (RR_s hJ1 s2 (RR_s hJ s1 he))
set_option maxRecDepth 100000 in
set_option maxHeartbeats 4000000 in
theorem lc_6 {g : gT} {h : mh_T} {Q : Nat × Nat} (i : Int32) (k : Nat) (ei : i.toInt = (k : Int)) (hk : k + 7 ≤ gN g) (hN : gN g ≤ 3584) (hJ : JJ h) (he : RR h) (hq : Q.1 ≤ 601024 ∧ Q.2 ≤ 7293034) (K : ∀ h', JJ h' → RR h' → LE g uL 1583 [.ref 900, .ref 0, .ref 11, .ref 61, .int i, .retAddr 0, .retAddr 0] [] h' Q) : LE g uL 540 [.ref 900, .ref 0, .ref 11, .ref 61, .int i, .retAddr 0, .retAddr 0] [] h Q := by
  have hin1 : vp_in (i + 1) (gN g) := l_in ei (c := 1) (d := 1) (by decide) (by omega) (by omega)
  have hin2 : vp_in (i + 2) (gN g) := l_in ei (c := 2) (d := 2) (by decide) (by omega) (by omega)
  refine l_aload_n dL_law_540 rfl ?_
  refine l_aload_n dL_law_541 rfl ?_
  refine l_iload dL_law_542 rfl ?_
  refine l_iconst (v := 1) dL_law_544 (by decide) ?_
  refine l_iadd dL_law_545 ?_
  refine l_sld dL_law_546 hin1 ?_
  refine l_aload_n dL_law_547 rfl ?_
  refine l_iload dL_law_548 rfl ?_
  refine l_iconst (v := 2) dL_law_550 (by decide) ?_
  refine l_iadd dL_law_551 ?_
  refine l_sld dL_law_552 hin2 ?_
  refine cl_L_47 dL_law_553 hq (Nat.le_of_ble_eq_true rfl) (LCi_go (P := fun r h' => LE g uL 556 [.ref 900, .ref 0, .ref 11, .ref 61, .int i, .retAddr 0, .retAddr 0] (.int r :: []) h' Q) ?_ (fun _ _ q => q))
  refine k_X10_extend (gx g (i + 1).toNatClampNeg) (gx g (i + 2).toNatClampNeg) hJ (fun r1 h1 hJ1 s1 => ?_)
  refine l_pop dL_law_556 rfl ?_
  refine l_aload_n dL_law_557 rfl ?_
  refine l_aload_n dL_law_558 rfl ?_
  refine l_iload dL_law_559 rfl ?_
  refine l_iconst (v := 1) dL_law_561 (by decide) ?_
  refine l_iadd dL_law_562 ?_
  refine l_sld dL_law_563 hin1 ?_
  refine l_aload_n dL_law_564 rfl ?_
  refine l_iload dL_law_565 rfl ?_
  refine l_iconst (v := 2) dL_law_567 (by decide) ?_
  refine l_iadd dL_law_568 ?_
  refine l_sld dL_law_569 hin2 ?_
  refine cl_L_51 dL_law_570 hq (Nat.le_of_ble_eq_true rfl) (LCi_go (P := fun r h' => LE g uL 573 [.ref 900, .ref 0, .ref 11, .ref 61, .int i, .retAddr 0, .retAddr 0] (.int r :: []) h' Q) ?_ (fun _ _ q => q))
  refine k_X11_extend (gx g (i + 1).toNatClampNeg) (gx g (i + 2).toNatClampNeg) hJ1 (fun r2 h2 hJ2 s2 => ?_)
  refine l_pop dL_law_573 rfl ?_
  refine l_goto 1583 dL_law_574 (by decide) ?_
  exact K h2 hJ2 (RR_s hJ1 s2 (RR_s hJ s1 he))
set_option maxRecDepth 100000 in
set_option maxHeartbeats 4000000 in
theorem lc_7 {g : gT} {h : mh_T} {Q : Nat × Nat} (i : Int32) (k : Nat) (ei : i.toInt = (k : Int)) (hk : k + 7 ≤ gN g) (hN : gN g ≤ 3584) (hJ : JJ h) (he : RR h) (hq : Q.1 ≤ 601024 ∧ Q.2 ≤ 7293034) (K : ∀ h', JJ h' → RR h' → LE g uL 1583 [.ref 900, .ref 0, .ref 11, .ref 61, .int i, .retAddr 0, .retAddr 0] [] h' Q) : LE g uL 577 [.ref 900, .ref 0, .ref 11, .ref 61, .int i, .retAddr 0, .retAddr 0] [] h Q := by
  refine l_aload_n dL_law_577 rfl ?_
  refine cl_L_52 dL_law_578 hq (Nat.le_of_ble_eq_true rfl) (LCi_go (P := fun r h' => LE g uL 581 [.ref 900, .ref 0, .ref 11, .ref 61, .int i, .retAddr 0, .retAddr 0] (.int r :: []) h' Q) ?_ (fun _ _ q => q))
  refine k_X10_level  hJ (fun r1 h1 hJ1 s1 => ?_)
  refine l_pop dL_law_581 rfl ?_
  refine l_aload_n dL_law_582 rfl ?_
  refine cl_L_55 dL_law_583 hq (Nat.le_of_ble_eq_true rfl) (LCi_go (P := fun r h' => LE g uL 586 [.ref 900, .ref 0, .ref 11, .ref 61, .int i, .retAddr 0, .retAddr 0] (.int r :: []) h' Q) ?_ (fun _ _ q => q))
  refine k_X11_level  hJ1 (fun r2 h2 hJ2 s2 => ?_)
  refine l_pop dL_law_586 rfl ?_
  refine l_goto 1583 dL_law_587 (by decide) ?_
  exact K h2 hJ2 (RR_s hJ1 s2 (RR_s hJ s1 he))
set_option maxRecDepth 100000 in
set_option maxHeartbeats 4000000 in
theorem lc_8 {g : gT} {h : mh_T} {Q : Nat × Nat} (i : Int32) (k : Nat) (ei : i.toInt = (k : Int)) (hk : k + 7 ≤ gN g) (hN : gN g ≤ 3584) (hJ : JJ h) (he : RR h) (hq : Q.1 ≤ 601024 ∧ Q.2 ≤ 7293034) (K : ∀ h', JJ h' → RR h' → LE g uL 1583 [.ref 900, .ref 0, .ref 11, .ref 61, .int i, .retAddr 0, .retAddr 0] [] h' Q) : LE g uL 590 [.ref 900, .ref 0, .ref 11, .ref 61, .int i, .retAddr 0, .retAddr 0] [] h Q := by
  refine l_aload_n dL_law_590 rfl ?_
  refine cl_L_56 dL_law_591 hq (Nat.le_of_ble_eq_true rfl) (LCi_go (P := fun r h' => LE g uL 594 [.ref 900, .ref 0, .ref 11, .ref 61, .int i, .retAddr 0, .retAddr 0] (.int r :: []) h' Q) ?_ (fun _ _ q => q))
  refine k_X10_hidden  hJ (fun r1 h1 hJ1 s1 => ?_)
  refine l_pop dL_law_594 rfl ?_
  refine l_aload_n dL_law_595 rfl ?_
  refine cl_L_59 dL_law_596 hq (Nat.le_of_ble_eq_true rfl) (LCi_go (P := fun r h' => LE g uL 599 [.ref 900, .ref 0, .ref 11, .ref 61, .int i, .retAddr 0, .retAddr 0] (.int r :: []) h' Q) ?_ (fun _ _ q => q))
  refine k_X11_hidden  hJ1 (fun r2 h2 hJ2 s2 => ?_)
  refine l_pop dL_law_599 rfl ?_
  refine l_goto 1583 dL_law_600 (by decide) ?_
  exact K h2 hJ2 (RR_s hJ1 s2 (RR_s hJ s1 he))
set_option maxRecDepth 100000 in
set_option maxHeartbeats 4000000 in
theorem lc_9 {g : gT} {h : mh_T} {Q : Nat × Nat} (i : Int32) (k : Nat) (ei : i.toInt = (k : Int)) (hk : k + 7 ≤ gN g) (hN : gN g ≤ 3584) (hJ : JJ h) (he : RR h) (hq : Q.1 ≤ 601024 ∧ Q.2 ≤ 7293034) (K : ∀ h', JJ h' → RR h' → LE g uL 1583 [.ref 900, .ref 0, .ref 11, .ref 61, .int i, .retAddr 0, .retAddr 0] [] h' Q) : LE g uL 603 [.ref 900, .ref 0, .ref 11, .ref 61, .int i, .retAddr 0, .retAddr 0] [] h Q := by
  have hin1 : vp_in (i + 1) (gN g) := l_in ei (c := 1) (d := 1) (by decide) (by omega) (by omega)
  refine l_aload_n dL_law_603 rfl ?_
  refine l_aload_n dL_law_604 rfl ?_
  refine l_iload dL_law_605 rfl ?_
  refine l_iconst (v := 1) dL_law_607 (by decide) ?_
  refine l_iadd dL_law_608 ?_
  refine l_sld dL_law_609 hin1 ?_
  refine cl_L_60 dL_law_610 hq (Nat.le_of_ble_eq_true rfl) (LCi_go (P := fun r h' => LE g uL 613 [.ref 900, .ref 0, .ref 11, .ref 61, .int i, .retAddr 0, .retAddr 0] (.int r :: []) h' Q) ?_ (fun _ _ q => q))
  refine k_X10_answer (gx g (i + 1).toNatClampNeg) hJ (fun r1 h1 hJ1 s1 => ?_)
  refine l_pop dL_law_613 rfl ?_
  refine l_aload_n dL_law_614 rfl ?_
  refine l_aload_n dL_law_615 rfl ?_
  refine l_iload dL_law_616 rfl ?_
  refine l_iconst (v := 1) dL_law_618 (by decide) ?_
  refine l_iadd dL_law_619 ?_
  refine l_sld dL_law_620 hin1 ?_
  refine cl_L_63 dL_law_621 hq (Nat.le_of_ble_eq_true rfl) (LCi_go (P := fun r h' => LE g uL 624 [.ref 900, .ref 0, .ref 11, .ref 61, .int i, .retAddr 0, .retAddr 0] (.int r :: []) h' Q) ?_ (fun _ _ q => q))
  refine k_X11_answer (gx g (i + 1).toNatClampNeg) hJ1 (fun r2 h2 hJ2 s2 => ?_)
  refine l_pop dL_law_624 rfl ?_
  refine l_goto 1583 dL_law_625 (by decide) ?_
  exact K h2 hJ2 (RR_s hJ1 s2 (RR_s hJ s1 he))
set_option maxRecDepth 100000 in
set_option maxHeartbeats 4000000 in
theorem lc_10 {g : gT} {h : mh_T} {Q : Nat × Nat} (i : Int32) (k : Nat) (ei : i.toInt = (k : Int)) (hk : k + 7 ≤ gN g) (hN : gN g ≤ 3584) (hJ : JJ h) (he : RR h) (hq : Q.1 ≤ 601024 ∧ Q.2 ≤ 7293034) (K : ∀ h', JJ h' → RR h' → LE g uL 1583 [.ref 900, .ref 0, .ref 11, .ref 61, .int i, .retAddr 0, .retAddr 0] [] h' Q) : LE g uL 628 [.ref 900, .ref 0, .ref 11, .ref 61, .int i, .retAddr 0, .retAddr 0] [] h Q := by
  refine l_aload_n dL_law_628 rfl ?_
  refine cl_L_64 dL_law_629 hq (Nat.le_of_ble_eq_true rfl) (LCi_go (P := fun r h' => LE g uL 632 [.ref 900, .ref 0, .ref 11, .ref 61, .int i, .retAddr 0, .retAddr 0] (.int r :: []) h' Q) ?_ (fun _ _ q => q))
  refine k_X10_disturbed  hJ (fun r1 h1 hJ1 s1 => ?_)
  refine l_pop dL_law_632 rfl ?_
  refine l_aload_n dL_law_633 rfl ?_
  refine cl_L_67 dL_law_634 hq (Nat.le_of_ble_eq_true rfl) (LCi_go (P := fun r h' => LE g uL 637 [.ref 900, .ref 0, .ref 11, .ref 61, .int i, .retAddr 0, .retAddr 0] (.int r :: []) h' Q) ?_ (fun _ _ q => q))
  refine k_X11_disturbed  hJ1 (fun r2 h2 hJ2 s2 => ?_)
  refine l_pop dL_law_637 rfl ?_
  refine l_goto 1583 dL_law_638 (by decide) ?_
  exact K h2 hJ2 (RR_s hJ1 s2 (RR_s hJ s1 he))
set_option maxRecDepth 100000 in
set_option maxHeartbeats 4000000 in
theorem lc_11 {g : gT} {h : mh_T} {Q : Nat × Nat} (i : Int32) (k : Nat) (ei : i.toInt = (k : Int)) (hk : k + 7 ≤ gN g) (hN : gN g ≤ 3584) (hJ : JJ h) (he : RR h) (hq : Q.1 ≤ 601024 ∧ Q.2 ≤ 7293034) (K : ∀ h', JJ h' → RR h' → LE g uL 1583 [.ref 900, .ref 0, .ref 11, .ref 61, .int i, .retAddr 0, .retAddr 0] [] h' Q) : LE g uL 641 [.ref 900, .ref 0, .ref 11, .ref 61, .int i, .retAddr 0, .retAddr 0] [] h Q := by
  have hin1 : vp_in (i + 1) (gN g) := l_in ei (c := 1) (d := 1) (by decide) (by omega) (by omega)
  refine l_aload_n dL_law_641 rfl ?_
  refine l_aload_n dL_law_642 rfl ?_
  refine l_iload dL_law_643 rfl ?_
  refine l_iconst (v := 1) dL_law_645 (by decide) ?_
  refine l_iadd dL_law_646 ?_
  refine l_sld dL_law_647 hin1 ?_
  refine cl_L_68 dL_law_648 hq (Nat.le_of_ble_eq_true rfl) (LCi_go (P := fun r h' => LE g uL 651 [.ref 900, .ref 0, .ref 11, .ref 61, .int i, .retAddr 0, .retAddr 0] (.int r :: []) h' Q) ?_ (fun _ _ q => q))
  refine k_X10_same (gx g (i + 1).toNatClampNeg) hJ (fun r1 h1 hJ1 s1 => ?_)
  refine l_pop dL_law_651 rfl ?_
  refine l_aload_n dL_law_652 rfl ?_
  refine l_aload_n dL_law_653 rfl ?_
  refine l_iload dL_law_654 rfl ?_
  refine l_iconst (v := 1) dL_law_656 (by decide) ?_
  refine l_iadd dL_law_657 ?_
  refine l_sld dL_law_658 hin1 ?_
  refine cl_L_71 dL_law_659 hq (Nat.le_of_ble_eq_true rfl) (LCi_go (P := fun r h' => LE g uL 662 [.ref 900, .ref 0, .ref 11, .ref 61, .int i, .retAddr 0, .retAddr 0] (.int r :: []) h' Q) ?_ (fun _ _ q => q))
  refine k_X11_same (gx g (i + 1).toNatClampNeg) hJ1 (fun r2 h2 hJ2 s2 => ?_)
  refine l_pop dL_law_662 rfl ?_
  refine l_goto 1583 dL_law_663 (by decide) ?_
  exact K h2 hJ2 (RR_s hJ1 s2 (RR_s hJ s1 he))
set_option maxRecDepth 100000 in
set_option maxHeartbeats 4000000 in
theorem lc_12 {g : gT} {h : mh_T} {Q : Nat × Nat} (i : Int32) (k : Nat) (ei : i.toInt = (k : Int)) (hk : k + 7 ≤ gN g) (hN : gN g ≤ 3584) (hJ : JJ h) (he : RR h) (hq : Q.1 ≤ 601024 ∧ Q.2 ≤ 7293034) (K : ∀ h', JJ h' → RR h' → LE g uL 1583 [.ref 900, .ref 0, .ref 11, .ref 61, .int i, .retAddr 0, .retAddr 0] [] h' Q) : LE g uL 666 [.ref 900, .ref 0, .ref 11, .ref 61, .int i, .retAddr 0, .retAddr 0] [] h Q := by
  refine l_aload_n dL_law_666 rfl ?_
  refine cl_L_72 dL_law_667 hq (Nat.le_of_ble_eq_true rfl) (LCi_go (P := fun r h' => LE g uL 670 [.ref 900, .ref 0, .ref 11, .ref 61, .int i, .retAddr 0, .retAddr 0] (.int r :: []) h' Q) ?_ (fun _ _ q => q))
  refine k_X10_cycles  hJ (fun r1 h1 hJ1 s1 => ?_)
  refine l_pop dL_law_670 rfl ?_
  refine l_aload_n dL_law_671 rfl ?_
  refine cl_L_75 dL_law_672 hq (Nat.le_of_ble_eq_true rfl) (LCi_go (P := fun r h' => LE g uL 675 [.ref 900, .ref 0, .ref 11, .ref 61, .int i, .retAddr 0, .retAddr 0] (.int r :: []) h' Q) ?_ (fun _ _ q => q))
  refine k_X11_cycles  hJ1 (fun r2 h2 hJ2 s2 => ?_)
  refine l_pop dL_law_675 rfl ?_
  refine l_goto 1583 dL_law_676 (by decide) ?_
  exact K h2 hJ2 (RR_s hJ1 s2 (RR_s hJ s1 he))
set_option maxRecDepth 100000 in
set_option maxHeartbeats 4000000 in
theorem lc_13 {g : gT} {h : mh_T} {Q : Nat × Nat} (i : Int32) (k : Nat) (ei : i.toInt = (k : Int)) (hk : k + 7 ≤ gN g) (hN : gN g ≤ 3584) (hJ : JJ h) (he : RR h) (hq : Q.1 ≤ 601024 ∧ Q.2 ≤ 7293034) (K : ∀ h', JJ h' → RR h' → LE g uL 1583 [.ref 900, .ref 0, .ref 11, .ref 61, .int i, .retAddr 0, .retAddr 0] [] h' Q) : LE g uL 679 [.ref 900, .ref 0, .ref 11, .ref 61, .int i, .retAddr 0, .retAddr 0] [] h Q := by
  have hin1 : vp_in (i + 1) (gN g) := l_in ei (c := 1) (d := 1) (by decide) (by omega) (by omega)
  refine l_aload_n dL_law_679 rfl ?_
  refine l_aload_n dL_law_680 rfl ?_
  refine l_iload dL_law_681 rfl ?_
  refine l_iconst (v := 1) dL_law_683 (by decide) ?_
  refine l_iadd dL_law_684 ?_
  refine l_sld dL_law_685 hin1 ?_
  refine cl_L_76 dL_law_686 hq (Nat.le_of_ble_eq_true rfl) (LCi_go (P := fun r h' => LE g uL 689 [.ref 900, .ref 0, .ref 11, .ref 61, .int i, .retAddr 0, .retAddr 0] (.int r :: []) h' Q) ?_ (fun _ _ q => q))
  refine k_X10_cycle (gx g (i + 1).toNatClampNeg) hJ (fun r1 h1 hJ1 s1 => ?_)
  refine l_pop dL_law_689 rfl ?_
  refine l_aload_n dL_law_690 rfl ?_
  refine l_aload_n dL_law_691 rfl ?_
  refine l_iload dL_law_692 rfl ?_
  refine l_iconst (v := 1) dL_law_694 (by decide) ?_
  refine l_iadd dL_law_695 ?_
  refine l_sld dL_law_696 hin1 ?_
  refine cl_L_79 dL_law_697 hq (Nat.le_of_ble_eq_true rfl) (LCi_go (P := fun r h' => LE g uL 700 [.ref 900, .ref 0, .ref 11, .ref 61, .int i, .retAddr 0, .retAddr 0] (.int r :: []) h' Q) ?_ (fun _ _ q => q))
  refine k_X11_cycle (gx g (i + 1).toNatClampNeg) hJ1 (fun r2 h2 hJ2 s2 => ?_)
  refine l_pop dL_law_700 rfl ?_
  refine l_goto 1583 dL_law_701 (by decide) ?_
  exact K h2 hJ2 (RR_s hJ1 s2 (RR_s hJ s1 he))
set_option maxRecDepth 100000 in
set_option maxHeartbeats 4000000 in
theorem lc_14 {g : gT} {h : mh_T} {Q : Nat × Nat} (i : Int32) (k : Nat) (ei : i.toInt = (k : Int)) (hk : k + 7 ≤ gN g) (hN : gN g ≤ 3584) (hJ : JJ h) (he : RR h) (hq : Q.1 ≤ 601024 ∧ Q.2 ≤ 7293034) (K : ∀ h', JJ h' → RR h' → LE g uL 1583 [.ref 900, .ref 0, .ref 11, .ref 61, .int i, .retAddr 0, .retAddr 0] [] h' Q) : LE g uL 704 [.ref 900, .ref 0, .ref 11, .ref 61, .int i, .retAddr 0, .retAddr 0] [] h Q := by
  have hin1 : vp_in (i + 1) (gN g) := l_in ei (c := 1) (d := 1) (by decide) (by omega) (by omega)
  refine l_aload_n dL_law_704 rfl ?_
  refine l_aload_n dL_law_705 rfl ?_
  refine l_iload dL_law_706 rfl ?_
  refine l_iconst (v := 1) dL_law_708 (by decide) ?_
  refine l_iadd dL_law_709 ?_
  refine l_sld dL_law_710 hin1 ?_
  refine cl_L_80 dL_law_711 hq (Nat.le_of_ble_eq_true rfl) (LCi_go (P := fun r h' => LE g uL 714 [.ref 900, .ref 0, .ref 11, .ref 61, .int i, .retAddr 0, .retAddr 0] (.int r :: []) h' Q) ?_ (fun _ _ q => q))
  refine k_X10_excess (gx g (i + 1).toNatClampNeg) hJ (fun r1 h1 hJ1 s1 => ?_)
  refine l_pop dL_law_714 rfl ?_
  refine l_aload_n dL_law_715 rfl ?_
  refine l_aload_n dL_law_716 rfl ?_
  refine l_iload dL_law_717 rfl ?_
  refine l_iconst (v := 1) dL_law_719 (by decide) ?_
  refine l_iadd dL_law_720 ?_
  refine l_sld dL_law_721 hin1 ?_
  refine cl_L_83 dL_law_722 hq (Nat.le_of_ble_eq_true rfl) (LCi_go (P := fun r h' => LE g uL 725 [.ref 900, .ref 0, .ref 11, .ref 61, .int i, .retAddr 0, .retAddr 0] (.int r :: []) h' Q) ?_ (fun _ _ q => q))
  refine k_X11_excess (gx g (i + 1).toNatClampNeg) hJ1 (fun r2 h2 hJ2 s2 => ?_)
  refine l_pop dL_law_725 rfl ?_
  refine l_goto 1583 dL_law_726 (by decide) ?_
  exact K h2 hJ2 (RR_s hJ1 s2 (RR_s hJ s1 he))
set_option maxRecDepth 100000 in
set_option maxHeartbeats 4000000 in
theorem lc_15 {g : gT} {h : mh_T} {Q : Nat × Nat} (i : Int32) (k : Nat) (ei : i.toInt = (k : Int)) (hk : k + 7 ≤ gN g) (hN : gN g ≤ 3584) (hJ : JJ h) (he : RR h) (hq : Q.1 ≤ 601024 ∧ Q.2 ≤ 7293034) (K : ∀ h', JJ h' → RR h' → LE g uL 1583 [.ref 900, .ref 0, .ref 11, .ref 61, .int i, .retAddr 0, .retAddr 0] [] h' Q) : LE g uL 729 [.ref 900, .ref 0, .ref 11, .ref 61, .int i, .retAddr 0, .retAddr 0] [] h Q := by
  refine l_aload_n dL_law_729 rfl ?_
  refine cl_L_84 dL_law_730 hq (Nat.le_of_ble_eq_true rfl) (LCi_go (P := fun r h' => LE g uL 733 [.ref 900, .ref 0, .ref 11, .ref 61, .int i, .retAddr 0, .retAddr 0] (.int r :: []) h' Q) ?_ (fun _ _ q => q))
  refine k_X10_widest  hJ (RH_pc he.2.2.2) (fun r1 h1 hJ1 s1 => ?_)
  refine l_aload_n dL_law_733 rfl ?_
  refine cl_L_87 dL_law_734 hq (Nat.le_of_ble_eq_true rfl) (LCi_go (P := fun r h' => LE g uL 737 [.ref 900, .ref 0, .ref 11, .ref 61, .int i, .retAddr 0, .retAddr 0] (.int r :: [.int r1]) h' Q) ?_ (fun _ _ q => q))
  refine k_X11_widest  hJ1 (PR_lr he.2.2.2 s1.2.2.2) (PW_lr hJ.1 he.2.2.2 s1.2.2.2) (fun r2 h2 hJ2 s2 => ?_)
  have heq := widest_r hJ he s1 s2
  refine l_icmp_eq 1583 dL_law_737 (by decide) (fun _ => ?_) (fun ne => absurd heq ne)
  exact K h2 hJ2 (RR_s hJ1 s2.2 (RR_s hJ s1.2 he))
set_option maxRecDepth 100000 in
set_option maxHeartbeats 4000000 in
theorem lc_16 {g : gT} {h : mh_T} {Q : Nat × Nat} (i : Int32) (k : Nat) (ei : i.toInt = (k : Int)) (hk : k + 7 ≤ gN g) (hN : gN g ≤ 3584) (hJ : JJ h) (he : RR h) (hq : Q.1 ≤ 601024 ∧ Q.2 ≤ 7293034) (K : ∀ h', JJ h' → RR h' → LE g uL 1583 [.ref 900, .ref 0, .ref 11, .ref 61, .int i, .retAddr 0, .retAddr 0] [] h' Q) : LE g uL 742 [.ref 900, .ref 0, .ref 11, .ref 61, .int i, .retAddr 0, .retAddr 0] [] h Q := by
  have hin1 : vp_in (i + 1) (gN g) := l_in ei (c := 1) (d := 1) (by decide) (by omega) (by omega)
  have hin2 : vp_in (i + 2) (gN g) := l_in ei (c := 2) (d := 2) (by decide) (by omega) (by omega)
  have hin3 : vp_in (i + 3) (gN g) := l_in ei (c := 3) (d := 3) (by decide) (by omega) (by omega)
  refine l_aload_n dL_law_742 rfl ?_
  refine l_aload_n dL_law_743 rfl ?_
  refine l_iload dL_law_744 rfl ?_
  refine l_iconst (v := 1) dL_law_746 (by decide) ?_
  refine l_iadd dL_law_747 ?_
  refine l_sld dL_law_748 hin1 ?_
  refine l_aload_n dL_law_749 rfl ?_
  refine l_iload dL_law_750 rfl ?_
  refine l_iconst (v := 2) dL_law_752 (by decide) ?_
  refine l_iadd dL_law_753 ?_
  refine l_sld dL_law_754 hin2 ?_
  refine l_aload_n dL_law_755 rfl ?_
  refine l_iload dL_law_756 rfl ?_
  refine l_iconst (v := 3) dL_law_758 (by decide) ?_
  refine l_iadd dL_law_759 ?_
  refine l_sld dL_law_760 hin3 ?_
  refine cl_L_88 dL_law_761 hq (Nat.le_of_ble_eq_true rfl) (LCi_go (P := fun r h' => LE g uL 764 [.ref 900, .ref 0, .ref 11, .ref 61, .int i, .retAddr 0, .retAddr 0] (.int r :: []) h' Q) ?_ (fun _ _ q => q))
  refine k_X10_stake (gx g (i + 1).toNatClampNeg) (gx g (i + 2).toNatClampNeg) (gx g (i + 3).toNatClampNeg) hJ (RH_pc he.2.2.2) (fun r1 h1 hJ1 s1 => ?_)
  refine l_pop dL_law_764 rfl ?_
  refine l_aload_n dL_law_765 rfl ?_
  refine l_aload_n dL_law_766 rfl ?_
  refine l_iload dL_law_767 rfl ?_
  refine l_iconst (v := 1) dL_law_769 (by decide) ?_
  refine l_iadd dL_law_770 ?_
  refine l_sld dL_law_771 hin1 ?_
  refine l_aload_n dL_law_772 rfl ?_
  refine l_iload dL_law_773 rfl ?_
  refine l_iconst (v := 2) dL_law_775 (by decide) ?_
  refine l_iadd dL_law_776 ?_
  refine l_sld dL_law_777 hin2 ?_
  refine l_aload_n dL_law_778 rfl ?_
  refine l_iload dL_law_779 rfl ?_
  refine l_iconst (v := 3) dL_law_781 (by decide) ?_
  refine l_iadd dL_law_782 ?_
  refine l_sld dL_law_783 hin3 ?_
  refine cl_L_92 dL_law_784 hq (Nat.le_of_ble_eq_true rfl) (LCi_go (P := fun r h' => LE g uL 787 [.ref 900, .ref 0, .ref 11, .ref 61, .int i, .retAddr 0, .retAddr 0] (.int r :: []) h' Q) ?_ (fun _ _ q => q))
  refine k_X11_stake (gx g (i + 1).toNatClampNeg) (gx g (i + 2).toNatClampNeg) (gx g (i + 3).toNatClampNeg) hJ1 (PR_lr he.2.2.2 s1.2.1) (fun r2 h2 hJ2 s2 => ?_)
  refine l_pop dL_law_787 rfl ?_
  refine l_goto 1583 dL_law_788 (by decide) ?_
  exact K h2 hJ2 (stake_RR hJ hJ1 he s1 s2)
set_option maxRecDepth 100000 in
set_option maxHeartbeats 4000000 in
theorem lc_17 {g : gT} {h : mh_T} {Q : Nat × Nat} (i : Int32) (k : Nat) (ei : i.toInt = (k : Int)) (hk : k + 7 ≤ gN g) (hN : gN g ≤ 3584) (hJ : JJ h) (he : RR h) (hq : Q.1 ≤ 601024 ∧ Q.2 ≤ 7293034) (K : ∀ h', JJ h' → RR h' → LE g uL 1583 [.ref 900, .ref 0, .ref 11, .ref 61, .int i, .retAddr 0, .retAddr 0] [] h' Q) : LE g uL 791 [.ref 900, .ref 0, .ref 11, .ref 61, .int i, .retAddr 0, .retAddr 0] [] h Q := by
  refine l_aload_n dL_law_791 rfl ?_
  refine cl_L_93 dL_law_792 hq (Nat.le_of_ble_eq_true rfl) (LCi_go (P := fun r h' => LE g uL 795 [.ref 900, .ref 0, .ref 11, .ref 61, .int i, .retAddr 0, .retAddr 0] (.int r :: []) h' Q) ?_ (fun _ _ q => q))
  refine k_X10_wins  hJ (fun r1 h1 hJ1 s1 => ?_)
  refine l_pop dL_law_795 rfl ?_
  refine l_aload_n dL_law_796 rfl ?_
  refine cl_L_96 dL_law_797 hq (Nat.le_of_ble_eq_true rfl) (LCi_go (P := fun r h' => LE g uL 800 [.ref 900, .ref 0, .ref 11, .ref 61, .int i, .retAddr 0, .retAddr 0] (.int r :: []) h' Q) ?_ (fun _ _ q => q))
  refine k_X11_wins  hJ1 (fun r2 h2 hJ2 s2 => ?_)
  refine l_pop dL_law_800 rfl ?_
  refine l_goto 1583 dL_law_801 (by decide) ?_
  exact K h2 hJ2 (RR_s hJ1 s2 (RR_s hJ s1 he))
set_option maxRecDepth 100000 in
set_option maxHeartbeats 4000000 in
theorem lc_18 {g : gT} {h : mh_T} {Q : Nat × Nat} (i : Int32) (k : Nat) (ei : i.toInt = (k : Int)) (hk : k + 7 ≤ gN g) (hN : gN g ≤ 3584) (hJ : JJ h) (he : RR h) (hq : Q.1 ≤ 601024 ∧ Q.2 ≤ 7293034) (K : ∀ h', JJ h' → RR h' → LE g uL 1583 [.ref 900, .ref 0, .ref 11, .ref 61, .int i, .retAddr 0, .retAddr 0] [] h' Q) : LE g uL 804 [.ref 900, .ref 0, .ref 11, .ref 61, .int i, .retAddr 0, .retAddr 0] [] h Q := by
  refine l_aload_n dL_law_804 rfl ?_
  refine cl_L_97 dL_law_805 hq (Nat.le_of_ble_eq_true rfl) (LCi_go (P := fun r h' => LE g uL 808 [.ref 900, .ref 0, .ref 11, .ref 61, .int i, .retAddr 0, .retAddr 0] (.int r :: []) h' Q) ?_ (fun _ _ q => q))
  refine k_X10_worst  hJ (fun r1 h1 hJ1 s1 => ?_)
  refine l_pop dL_law_808 rfl ?_
  refine l_aload_n dL_law_809 rfl ?_
  refine cl_L_100 dL_law_810 hq (Nat.le_of_ble_eq_true rfl) (LCi_go (P := fun r h' => LE g uL 813 [.ref 900, .ref 0, .ref 11, .ref 61, .int i, .retAddr 0, .retAddr 0] (.int r :: []) h' Q) ?_ (fun _ _ q => q))
  refine k_X11_worst  hJ1 (fun r2 h2 hJ2 s2 => ?_)
  refine l_pop dL_law_813 rfl ?_
  refine l_goto 1583 dL_law_814 (by decide) ?_
  exact K h2 hJ2 (RR_s hJ1 s2 (RR_s hJ s1 he))
set_option maxRecDepth 100000 in
set_option maxHeartbeats 4000000 in
theorem lc_19 {g : gT} {h : mh_T} {Q : Nat × Nat} (i : Int32) (k : Nat) (ei : i.toInt = (k : Int)) (hk : k + 7 ≤ gN g) (hN : gN g ≤ 3584) (hJ : JJ h) (he : RR h) (hq : Q.1 ≤ 601024 ∧ Q.2 ≤ 7293034) (K : ∀ h', JJ h' → RR h' → LE g uL 1583 [.ref 900, .ref 0, .ref 11, .ref 61, .int i, .retAddr 0, .retAddr 0] [] h' Q) : LE g uL 817 [.ref 900, .ref 0, .ref 11, .ref 61, .int i, .retAddr 0, .retAddr 0] [] h Q := by
  refine l_aload_n dL_law_817 rfl ?_
  refine cl_L_101 dL_law_818 hq (Nat.le_of_ble_eq_true rfl) (LCi_go (P := fun r h' => LE g uL 821 [.ref 900, .ref 0, .ref 11, .ref 61, .int i, .retAddr 0, .retAddr 0] (.int r :: []) h' Q) ?_ (fun _ _ q => q))
  refine k_X10_worstAt  hJ (fun r1 h1 hJ1 s1 => ?_)
  refine l_pop dL_law_821 rfl ?_
  refine l_aload_n dL_law_822 rfl ?_
  refine cl_L_104 dL_law_823 hq (Nat.le_of_ble_eq_true rfl) (LCi_go (P := fun r h' => LE g uL 826 [.ref 900, .ref 0, .ref 11, .ref 61, .int i, .retAddr 0, .retAddr 0] (.int r :: []) h' Q) ?_ (fun _ _ q => q))
  refine k_X11_worstAt  hJ1 (fun r2 h2 hJ2 s2 => ?_)
  refine l_pop dL_law_826 rfl ?_
  refine l_goto 1583 dL_law_827 (by decide) ?_
  exact K h2 hJ2 (RR_s hJ1 s2 (RR_s hJ s1 he))
set_option maxRecDepth 100000 in
set_option maxHeartbeats 4000000 in
theorem lc_20 {g : gT} {h : mh_T} {Q : Nat × Nat} (i : Int32) (k : Nat) (ei : i.toInt = (k : Int)) (hk : k + 7 ≤ gN g) (hN : gN g ≤ 3584) (hJ : JJ h) (he : RR h) (hq : Q.1 ≤ 601024 ∧ Q.2 ≤ 7293034) (K : ∀ h', JJ h' → RR h' → LE g uL 1583 [.ref 900, .ref 0, .ref 11, .ref 61, .int i, .retAddr 0, .retAddr 0] [] h' Q) : LE g uL 830 [.ref 900, .ref 0, .ref 11, .ref 61, .int i, .retAddr 0, .retAddr 0] [] h Q := by
  refine l_aload_n dL_law_830 rfl ?_
  refine cl_L_105 dL_law_831 hq (Nat.le_of_ble_eq_true rfl) (LCi_go (P := fun r h' => LE g uL 834 [.ref 900, .ref 0, .ref 11, .ref 61, .int i, .retAddr 0, .retAddr 0] (.int r :: []) h' Q) ?_ (fun _ _ q => q))
  refine k_X10_bars  hJ (fun r1 h1 hJ1 s1 => ?_)
  refine l_pop dL_law_834 rfl ?_
  refine l_aload_n dL_law_835 rfl ?_
  refine cl_L_108 dL_law_836 hq (Nat.le_of_ble_eq_true rfl) (LCi_go (P := fun r h' => LE g uL 839 [.ref 900, .ref 0, .ref 11, .ref 61, .int i, .retAddr 0, .retAddr 0] (.int r :: []) h' Q) ?_ (fun _ _ q => q))
  refine k_X11_bars  hJ1 (fun r2 h2 hJ2 s2 => ?_)
  refine l_pop dL_law_839 rfl ?_
  refine l_goto 1583 dL_law_840 (by decide) ?_
  exact K h2 hJ2 (RR_s hJ1 s2 (RR_s hJ s1 he))
set_option maxRecDepth 100000 in
set_option maxHeartbeats 4000000 in
theorem lc_21 {g : gT} {h : mh_T} {Q : Nat × Nat} (i : Int32) (k : Nat) (ei : i.toInt = (k : Int)) (hk : k + 7 ≤ gN g) (hN : gN g ≤ 3584) (hJ : JJ h) (he : RR h) (hq : Q.1 ≤ 601024 ∧ Q.2 ≤ 7293034) (K : ∀ h', JJ h' → RR h' → LE g uL 1583 [.ref 900, .ref 0, .ref 11, .ref 61, .int i, .retAddr 0, .retAddr 0] [] h' Q) : LE g uL 843 [.ref 900, .ref 0, .ref 11, .ref 61, .int i, .retAddr 0, .retAddr 0] [] h Q := by
  have hin1 : vp_in (i + 1) (gN g) := l_in ei (c := 1) (d := 1) (by decide) (by omega) (by omega)
  refine l_aload_n dL_law_843 rfl ?_
  refine l_aload_n dL_law_844 rfl ?_
  refine l_iload dL_law_845 rfl ?_
  refine l_iconst (v := 1) dL_law_847 (by decide) ?_
  refine l_iadd dL_law_848 ?_
  refine l_sld dL_law_849 hin1 ?_
  suffices hj1 : ∀ v1 : Int32, v1 = (if (gx g (i + 1).toNatClampNeg) = 0 then 0 else 1) → LE g uL 858 [.ref 900, .ref 0, .ref 11, .ref 61, .int i, .retAddr 0, .retAddr 0] [.int v1, .ref 0] h Q from l_if_eq 857 dL_law_850 (by decide) (fun z => l_iconst (v := 0) dL_law_857 (by decide) (hj1 0 (if_pos z).symm)) (fun z => l_iconst (v := 1) dL_law_853 (by decide) (l_goto 858 dL_law_854 (by decide) (hj1 1 (if_neg z).symm)))
  intro v1 hv1
  refine cl_L_109 dL_law_858 hq (Nat.le_of_ble_eq_true rfl) (LCi_go (P := fun r h' => LE g uL 861 [.ref 900, .ref 0, .ref 11, .ref 61, .int i, .retAddr 0, .retAddr 0] (.int r :: []) h' Q) ?_ (fun _ _ q => q))
  refine k_X10_fair v1 hJ (fun r1 h1 hJ1 s1 => ?_)
  refine l_pop dL_law_861 rfl ?_
  refine l_aload_n dL_law_862 rfl ?_
  refine l_aload_n dL_law_863 rfl ?_
  refine l_iload dL_law_864 rfl ?_
  refine l_iconst (v := 1) dL_law_866 (by decide) ?_
  refine l_iadd dL_law_867 ?_
  refine l_sld dL_law_868 hin1 ?_
  suffices hj2 : ∀ v2 : Int32, v2 = (if (gx g (i + 1).toNatClampNeg) = 0 then 0 else 1) → LE g uL 877 [.ref 900, .ref 0, .ref 11, .ref 61, .int i, .retAddr 0, .retAddr 0] [.int v2, .ref 11] h1 Q from l_if_eq 876 dL_law_869 (by decide) (fun z => l_iconst (v := 0) dL_law_876 (by decide) (hj2 0 (if_pos z).symm)) (fun z => l_iconst (v := 1) dL_law_872 (by decide) (l_goto 877 dL_law_873 (by decide) (hj2 1 (if_neg z).symm)))
  intro v2 hv2
  rw [show v2 = v1 from hv2.trans hv1.symm]
  refine cl_L_112 dL_law_877 hq (Nat.le_of_ble_eq_true rfl) (LCi_go (P := fun r h' => LE g uL 880 [.ref 900, .ref 0, .ref 11, .ref 61, .int i, .retAddr 0, .retAddr 0] (.int r :: []) h' Q) ?_ (fun _ _ q => q))
  refine k_X11_fair v1 hJ1 (fun r2 h2 hJ2 s2 => ?_)
  refine l_pop dL_law_880 rfl ?_
  refine l_goto 1583 dL_law_881 (by decide) ?_
  exact K h2 hJ2 (RR_s hJ1 s2 (RR_s hJ s1 he))
set_option maxRecDepth 100000 in
set_option maxHeartbeats 4000000 in
theorem lc_22 {g : gT} {h : mh_T} {Q : Nat × Nat} (i : Int32) (k : Nat) (ei : i.toInt = (k : Int)) (hk : k + 7 ≤ gN g) (hN : gN g ≤ 3584) (hJ : JJ h) (he : RR h) (hq : Q.1 ≤ 601024 ∧ Q.2 ≤ 7293034) (K : ∀ h', JJ h' → RR h' → LE g uL 1583 [.ref 900, .ref 0, .ref 11, .ref 61, .int i, .retAddr 0, .retAddr 0] [] h' Q) : LE g uL 884 [.ref 900, .ref 0, .ref 11, .ref 61, .int i, .retAddr 0, .retAddr 0] [] h Q := by
  refine l_aload_n dL_law_884 rfl ?_
  refine cl_L_113 dL_law_885 hq (Nat.le_of_ble_eq_true rfl) (LCi_go (P := fun r h' => LE g uL 888 [.ref 900, .ref 0, .ref 11, .ref 61, .int i, .retAddr 0, .retAddr 0] (.int r :: []) h' Q) ?_ (fun _ _ q => q))
  refine k_X10_ways  hJ (fun r1 h1 hJ1 s1 => ?_)
  refine l_pop dL_law_888 rfl ?_
  refine l_aload_n dL_law_889 rfl ?_
  refine cl_L_116 dL_law_890 hq (Nat.le_of_ble_eq_true rfl) (LCi_go (P := fun r h' => LE g uL 893 [.ref 900, .ref 0, .ref 11, .ref 61, .int i, .retAddr 0, .retAddr 0] (.int r :: []) h' Q) ?_ (fun _ _ q => q))
  refine k_X11_ways  hJ1 (fun r2 h2 hJ2 s2 => ?_)
  refine l_pop dL_law_893 rfl ?_
  refine l_goto 1583 dL_law_894 (by decide) ?_
  exact K h2 hJ2 (RR_s hJ1 s2 (RR_s hJ s1 he))
set_option maxRecDepth 100000 in
set_option maxHeartbeats 4000000 in
theorem lc_23 {g : gT} {h : mh_T} {Q : Nat × Nat} (i : Int32) (k : Nat) (ei : i.toInt = (k : Int)) (hk : k + 7 ≤ gN g) (hN : gN g ≤ 3584) (hJ : JJ h) (he : RR h) (hq : Q.1 ≤ 601024 ∧ Q.2 ≤ 7293034) (K : ∀ h', JJ h' → RR h' → LE g uL 1583 [.ref 900, .ref 0, .ref 11, .ref 61, .int i, .retAddr 0, .retAddr 0] [] h' Q) : LE g uL 897 [.ref 900, .ref 0, .ref 11, .ref 61, .int i, .retAddr 0, .retAddr 0] [] h Q := by
  have hin1 : vp_in (i + 1) (gN g) := l_in ei (c := 1) (d := 1) (by decide) (by omega) (by omega)
  refine l_aload_n dL_law_897 rfl ?_
  refine l_aload_n dL_law_898 rfl ?_
  refine l_iload dL_law_899 rfl ?_
  refine l_iconst (v := 1) dL_law_901 (by decide) ?_
  refine l_iadd dL_law_902 ?_
  refine l_sld dL_law_903 hin1 ?_
  refine cl_L_117 dL_law_904 hq (Nat.le_of_ble_eq_true rfl) (LCi_go (P := fun r h' => LE g uL 907 [.ref 900, .ref 0, .ref 11, .ref 61, .int i, .retAddr 0, .retAddr 0] (.int r :: []) h' Q) ?_ (fun _ _ q => q))
  refine k_X10_forced (gx g (i + 1).toNatClampNeg) hJ (fun r1 h1 hJ1 s1 => ?_)
  refine l_pop dL_law_907 rfl ?_
  refine l_aload_n dL_law_908 rfl ?_
  refine l_aload_n dL_law_909 rfl ?_
  refine l_iload dL_law_910 rfl ?_
  refine l_iconst (v := 1) dL_law_912 (by decide) ?_
  refine l_iadd dL_law_913 ?_
  refine l_sld dL_law_914 hin1 ?_
  refine cl_L_120 dL_law_915 hq (Nat.le_of_ble_eq_true rfl) (LCi_go (P := fun r h' => LE g uL 918 [.ref 900, .ref 0, .ref 11, .ref 61, .int i, .retAddr 0, .retAddr 0] (.int r :: []) h' Q) ?_ (fun _ _ q => q))
  refine k_X11_forced (gx g (i + 1).toNatClampNeg) hJ1 (fun r2 h2 hJ2 s2 => ?_)
  refine l_pop dL_law_918 rfl ?_
  refine l_goto 1583 dL_law_919 (by decide) ?_
  exact K h2 hJ2 (RR_s hJ1 s2 (RR_s hJ s1 he))
set_option maxRecDepth 100000 in
set_option maxHeartbeats 4000000 in
theorem lc_24 {g : gT} {h : mh_T} {Q : Nat × Nat} (i : Int32) (k : Nat) (ei : i.toInt = (k : Int)) (hk : k + 7 ≤ gN g) (hN : gN g ≤ 3584) (hJ : JJ h) (he : RR h) (hq : Q.1 ≤ 601024 ∧ Q.2 ≤ 7293034) (K : ∀ h', JJ h' → RR h' → LE g uL 1583 [.ref 900, .ref 0, .ref 11, .ref 61, .int i, .retAddr 0, .retAddr 0] [] h' Q) : LE g uL 922 [.ref 900, .ref 0, .ref 11, .ref 61, .int i, .retAddr 0, .retAddr 0] [] h Q := by
  refine l_aload_n dL_law_922 rfl ?_
  refine cl_L_121 dL_law_923 hq (Nat.le_of_ble_eq_true rfl) (LCi_go (P := fun r h' => LE g uL 926 [.ref 900, .ref 0, .ref 11, .ref 61, .int i, .retAddr 0, .retAddr 0] (.int r :: []) h' Q) ?_ (fun _ _ q => q))
  refine k_X10_core  hJ (fun r1 h1 hJ1 s1 => ?_)
  refine l_pop dL_law_926 rfl ?_
  refine l_aload_n dL_law_927 rfl ?_
  refine cl_L_124 dL_law_928 hq (Nat.le_of_ble_eq_true rfl) (LCi_go (P := fun r h' => LE g uL 931 [.ref 900, .ref 0, .ref 11, .ref 61, .int i, .retAddr 0, .retAddr 0] (.int r :: []) h' Q) ?_ (fun _ _ q => q))
  refine k_X11_core  hJ1 (fun r2 h2 hJ2 s2 => ?_)
  refine l_pop dL_law_931 rfl ?_
  refine l_goto 1583 dL_law_932 (by decide) ?_
  exact K h2 hJ2 (RR_s hJ1 s2 (RR_s hJ s1 he))
set_option maxRecDepth 100000 in
set_option maxHeartbeats 4000000 in
theorem lc_25 {g : gT} {h : mh_T} {Q : Nat × Nat} (i : Int32) (k : Nat) (ei : i.toInt = (k : Int)) (hk : k + 7 ≤ gN g) (hN : gN g ≤ 3584) (hJ : JJ h) (he : RR h) (hq : Q.1 ≤ 601024 ∧ Q.2 ≤ 7293034) (K : ∀ h', JJ h' → RR h' → LE g uL 1583 [.ref 900, .ref 0, .ref 11, .ref 61, .int i, .retAddr 0, .retAddr 0] [] h' Q) : LE g uL 935 [.ref 900, .ref 0, .ref 11, .ref 61, .int i, .retAddr 0, .retAddr 0] [] h Q := by
  have hin1 : vp_in (i + 1) (gN g) := l_in ei (c := 1) (d := 1) (by decide) (by omega) (by omega)
  refine l_aload_n dL_law_935 rfl ?_
  refine l_aload_n dL_law_936 rfl ?_
  refine l_iload dL_law_937 rfl ?_
  refine l_iconst (v := 1) dL_law_939 (by decide) ?_
  refine l_iadd dL_law_940 ?_
  refine l_sld dL_law_941 hin1 ?_
  refine cl_L_125 dL_law_942 hq (Nat.le_of_ble_eq_true rfl) (LCi_go (P := fun r h' => LE g uL 945 [.ref 900, .ref 0, .ref 11, .ref 61, .int i, .retAddr 0, .retAddr 0] (.int r :: []) h' Q) ?_ (fun _ _ q => q))
  refine k_X10_can (gx g (i + 1).toNatClampNeg) hJ (fun r1 h1 hJ1 s1 => ?_)
  refine l_pop dL_law_945 rfl ?_
  refine l_aload_n dL_law_946 rfl ?_
  refine l_aload_n dL_law_947 rfl ?_
  refine l_iload dL_law_948 rfl ?_
  refine l_iconst (v := 1) dL_law_950 (by decide) ?_
  refine l_iadd dL_law_951 ?_
  refine l_sld dL_law_952 hin1 ?_
  refine cl_L_128 dL_law_953 hq (Nat.le_of_ble_eq_true rfl) (LCi_go (P := fun r h' => LE g uL 956 [.ref 900, .ref 0, .ref 11, .ref 61, .int i, .retAddr 0, .retAddr 0] (.int r :: []) h' Q) ?_ (fun _ _ q => q))
  refine k_X11_can (gx g (i + 1).toNatClampNeg) hJ1 (fun r2 h2 hJ2 s2 => ?_)
  refine l_pop dL_law_956 rfl ?_
  refine l_goto 1583 dL_law_957 (by decide) ?_
  exact K h2 hJ2 (RR_s hJ1 s2 (RR_s hJ s1 he))
set_option maxRecDepth 100000 in
set_option maxHeartbeats 4000000 in
theorem lc_26 {g : gT} {h : mh_T} {Q : Nat × Nat} (i : Int32) (k : Nat) (ei : i.toInt = (k : Int)) (hk : k + 7 ≤ gN g) (hN : gN g ≤ 3584) (hJ : JJ h) (he : RR h) (hq : Q.1 ≤ 601024 ∧ Q.2 ≤ 7293034) (K : ∀ h', JJ h' → RR h' → LE g uL 1583 [.ref 900, .ref 0, .ref 11, .ref 61, .int i, .retAddr 0, .retAddr 0] [] h' Q) : LE g uL 960 [.ref 900, .ref 0, .ref 11, .ref 61, .int i, .retAddr 0, .retAddr 0] [] h Q := by
  refine l_aload_n dL_law_960 rfl ?_
  refine cl_L_129 dL_law_961 hq (Nat.le_of_ble_eq_true rfl) (LCi_go (P := fun r h' => LE g uL 964 [.ref 900, .ref 0, .ref 11, .ref 61, .int i, .retAddr 0, .retAddr 0] (.int r :: []) h' Q) ?_ (fun _ _ q => q))
  refine k_X10_game  hJ (fun r1 h1 hJ1 s1 => ?_)
  refine l_pop dL_law_964 rfl ?_
  refine l_aload_n dL_law_965 rfl ?_
  refine cl_L_132 dL_law_966 hq (Nat.le_of_ble_eq_true rfl) (LCi_go (P := fun r h' => LE g uL 969 [.ref 900, .ref 0, .ref 11, .ref 61, .int i, .retAddr 0, .retAddr 0] (.int r :: []) h' Q) ?_ (fun _ _ q => q))
  refine k_X11_game  hJ1 (fun r2 h2 hJ2 s2 => ?_)
  refine l_pop dL_law_969 rfl ?_
  refine l_goto 1583 dL_law_970 (by decide) ?_
  exact K h2 hJ2 (RR_s hJ1 s2 (RR_s hJ s1 he))
set_option maxRecDepth 100000 in
set_option maxHeartbeats 4000000 in
theorem lc_27 {g : gT} {h : mh_T} {Q : Nat × Nat} (i : Int32) (k : Nat) (ei : i.toInt = (k : Int)) (hk : k + 7 ≤ gN g) (hN : gN g ≤ 3584) (hJ : JJ h) (he : RR h) (hq : Q.1 ≤ 601024 ∧ Q.2 ≤ 7293034) (K : ∀ h', JJ h' → RR h' → LE g uL 1583 [.ref 900, .ref 0, .ref 11, .ref 61, .int i, .retAddr 0, .retAddr 0] [] h' Q) : LE g uL 973 [.ref 900, .ref 0, .ref 11, .ref 61, .int i, .retAddr 0, .retAddr 0] [] h Q := by
  have hin1 : vp_in (i + 1) (gN g) := l_in ei (c := 1) (d := 1) (by decide) (by omega) (by omega)
  have hin2 : vp_in (i + 2) (gN g) := l_in ei (c := 2) (d := 2) (by decide) (by omega) (by omega)
  refine l_aload_n dL_law_973 rfl ?_
  refine l_aload_n dL_law_974 rfl ?_
  refine l_iload dL_law_975 rfl ?_
  refine l_iconst (v := 1) dL_law_977 (by decide) ?_
  refine l_iadd dL_law_978 ?_
  refine l_sld dL_law_979 hin1 ?_
  refine l_aload_n dL_law_980 rfl ?_
  refine l_iload dL_law_981 rfl ?_
  refine l_iconst (v := 2) dL_law_983 (by decide) ?_
  refine l_iadd dL_law_984 ?_
  refine l_sld dL_law_985 hin2 ?_
  refine cl_L_133 dL_law_986 hq (Nat.le_of_ble_eq_true rfl) (LCi_go (P := fun r h' => LE g uL 989 [.ref 900, .ref 0, .ref 11, .ref 61, .int i, .retAddr 0, .retAddr 0] (.int r :: []) h' Q) ?_ (fun _ _ q => q))
  refine k_X10_square (gx g (i + 1).toNatClampNeg) (gx g (i + 2).toNatClampNeg) hJ (fun r1 h1 hJ1 s1 => ?_)
  refine l_pop dL_law_989 rfl ?_
  refine l_aload_n dL_law_990 rfl ?_
  refine l_aload_n dL_law_991 rfl ?_
  refine l_iload dL_law_992 rfl ?_
  refine l_iconst (v := 1) dL_law_994 (by decide) ?_
  refine l_iadd dL_law_995 ?_
  refine l_sld dL_law_996 hin1 ?_
  refine l_aload_n dL_law_997 rfl ?_
  refine l_iload dL_law_998 rfl ?_
  refine l_iconst (v := 2) dL_law_1000 (by decide) ?_
  refine l_iadd dL_law_1001 ?_
  refine l_sld dL_law_1002 hin2 ?_
  refine cl_L_136 dL_law_1003 hq (Nat.le_of_ble_eq_true rfl) (LCi_go (P := fun r h' => LE g uL 1006 [.ref 900, .ref 0, .ref 11, .ref 61, .int i, .retAddr 0, .retAddr 0] (.int r :: []) h' Q) ?_ (fun _ _ q => q))
  refine k_X11_square (gx g (i + 1).toNatClampNeg) (gx g (i + 2).toNatClampNeg) hJ1 (fun r2 h2 hJ2 s2 => ?_)
  refine l_pop dL_law_1006 rfl ?_
  refine l_goto 1583 dL_law_1007 (by decide) ?_
  exact K h2 hJ2 (RR_s hJ1 s2 (RR_s hJ s1 he))
set_option maxRecDepth 100000 in
set_option maxHeartbeats 4000000 in
theorem lc_28 {g : gT} {h : mh_T} {Q : Nat × Nat} (i : Int32) (k : Nat) (ei : i.toInt = (k : Int)) (hk : k + 7 ≤ gN g) (hN : gN g ≤ 3584) (hJ : JJ h) (he : RR h) (hq : Q.1 ≤ 601024 ∧ Q.2 ≤ 7293034) (K : ∀ h', JJ h' → RR h' → LE g uL 1583 [.ref 900, .ref 0, .ref 11, .ref 61, .int i, .retAddr 0, .retAddr 0] [] h' Q) : LE g uL 1010 [.ref 900, .ref 0, .ref 11, .ref 61, .int i, .retAddr 0, .retAddr 0] [] h Q := by
  refine l_aload_n dL_law_1010 rfl ?_
  refine cl_L_137 dL_law_1011 hq (Nat.le_of_ble_eq_true rfl) (LCi_go (P := fun r h' => LE g uL 1014 [.ref 900, .ref 0, .ref 11, .ref 61, .int i, .retAddr 0, .retAddr 0] (.int r :: []) h' Q) ?_ (fun _ _ q => q))
  refine k_X10_corners  hJ (fun r1 h1 hJ1 s1 => ?_)
  refine l_pop dL_law_1014 rfl ?_
  refine l_aload_n dL_law_1015 rfl ?_
  refine cl_L_140 dL_law_1016 hq (Nat.le_of_ble_eq_true rfl) (LCi_go (P := fun r h' => LE g uL 1019 [.ref 900, .ref 0, .ref 11, .ref 61, .int i, .retAddr 0, .retAddr 0] (.int r :: []) h' Q) ?_ (fun _ _ q => q))
  refine k_X11_corners  hJ1 (fun r2 h2 hJ2 s2 => ?_)
  refine l_pop dL_law_1019 rfl ?_
  refine l_goto 1583 dL_law_1020 (by decide) ?_
  exact K h2 hJ2 (RR_s hJ1 s2 (RR_s hJ s1 he))
set_option maxRecDepth 100000 in
set_option maxHeartbeats 4000000 in
theorem lc_29 {g : gT} {h : mh_T} {Q : Nat × Nat} (i : Int32) (k : Nat) (ei : i.toInt = (k : Int)) (hk : k + 7 ≤ gN g) (hN : gN g ≤ 3584) (hJ : JJ h) (he : RR h) (hq : Q.1 ≤ 601024 ∧ Q.2 ≤ 7293034) (K : ∀ h', JJ h' → RR h' → LE g uL 1583 [.ref 900, .ref 0, .ref 11, .ref 61, .int i, .retAddr 0, .retAddr 0] [] h' Q) : LE g uL 1023 [.ref 900, .ref 0, .ref 11, .ref 61, .int i, .retAddr 0, .retAddr 0] [] h Q := by
  refine l_aload_n dL_law_1023 rfl ?_
  refine cl_L_141 dL_law_1024 hq (Nat.le_of_ble_eq_true rfl) (LCi_go (P := fun r h' => LE g uL 1027 [.ref 900, .ref 0, .ref 11, .ref 61, .int i, .retAddr 0, .retAddr 0] (.int r :: []) h' Q) ?_ (fun _ _ q => q))
  refine k_X10_colours  hJ (fun r1 h1 hJ1 s1 => ?_)
  refine l_pop dL_law_1027 rfl ?_
  refine l_aload_n dL_law_1028 rfl ?_
  refine cl_L_144 dL_law_1029 hq (Nat.le_of_ble_eq_true rfl) (LCi_go (P := fun r h' => LE g uL 1032 [.ref 900, .ref 0, .ref 11, .ref 61, .int i, .retAddr 0, .retAddr 0] (.int r :: []) h' Q) ?_ (fun _ _ q => q))
  refine k_X11_colours  hJ1 (fun r2 h2 hJ2 s2 => ?_)
  refine l_pop dL_law_1032 rfl ?_
  refine l_goto 1583 dL_law_1033 (by decide) ?_
  exact K h2 hJ2 (RR_s hJ1 s2 (RR_s hJ s1 he))
set_option maxRecDepth 100000 in
set_option maxHeartbeats 4000000 in
theorem lc_30 {g : gT} {h : mh_T} {Q : Nat × Nat} (i : Int32) (k : Nat) (ei : i.toInt = (k : Int)) (hk : k + 7 ≤ gN g) (hN : gN g ≤ 3584) (hJ : JJ h) (he : RR h) (hq : Q.1 ≤ 601024 ∧ Q.2 ≤ 7293034) (K : ∀ h', JJ h' → RR h' → LE g uL 1583 [.ref 900, .ref 0, .ref 11, .ref 61, .int i, .retAddr 0, .retAddr 0] [] h' Q) : LE g uL 1036 [.ref 900, .ref 0, .ref 11, .ref 61, .int i, .retAddr 0, .retAddr 0] [] h Q := by
  refine l_aload_n dL_law_1036 rfl ?_
  refine cl_L_145 dL_law_1037 hq (Nat.le_of_ble_eq_true rfl) (LCi_go (P := fun r h' => LE g uL 1040 [.ref 900, .ref 0, .ref 11, .ref 61, .int i, .retAddr 0, .retAddr 0] (.int r :: []) h' Q) ?_ (fun _ _ q => q))
  refine k_X10_ones  hJ (fun r1 h1 hJ1 s1 => ?_)
  refine l_pop dL_law_1040 rfl ?_
  refine l_aload_n dL_law_1041 rfl ?_
  refine cl_L_148 dL_law_1042 hq (Nat.le_of_ble_eq_true rfl) (LCi_go (P := fun r h' => LE g uL 1045 [.ref 900, .ref 0, .ref 11, .ref 61, .int i, .retAddr 0, .retAddr 0] (.int r :: []) h' Q) ?_ (fun _ _ q => q))
  refine k_X11_ones  hJ1 (fun r2 h2 hJ2 s2 => ?_)
  refine l_pop dL_law_1045 rfl ?_
  refine l_goto 1583 dL_law_1046 (by decide) ?_
  exact K h2 hJ2 (RR_s hJ1 s2 (RR_s hJ s1 he))
set_option maxRecDepth 100000 in
set_option maxHeartbeats 4000000 in
theorem lc_31 {g : gT} {h : mh_T} {Q : Nat × Nat} (i : Int32) (k : Nat) (ei : i.toInt = (k : Int)) (hk : k + 7 ≤ gN g) (hN : gN g ≤ 3584) (hJ : JJ h) (he : RR h) (hq : Q.1 ≤ 601024 ∧ Q.2 ≤ 7293034) (K : ∀ h', JJ h' → RR h' → LE g uL 1583 [.ref 900, .ref 0, .ref 11, .ref 61, .int i, .retAddr 0, .retAddr 0] [] h' Q) : LE g uL 1049 [.ref 900, .ref 0, .ref 11, .ref 61, .int i, .retAddr 0, .retAddr 0] [] h Q := by
  refine l_aload_n dL_law_1049 rfl ?_
  refine cl_L_149 dL_law_1050 hq (Nat.le_of_ble_eq_true rfl) (LCi_go (P := fun r h' => LE g uL 1053 [.ref 900, .ref 0, .ref 11, .ref 61, .int i, .retAddr 0, .retAddr 0] (.int r :: []) h' Q) ?_ (fun _ _ q => q))
  refine k_X10_spare  hJ (fun r1 h1 hJ1 s1 => ?_)
  refine l_pop dL_law_1053 rfl ?_
  refine l_aload_n dL_law_1054 rfl ?_
  refine cl_L_152 dL_law_1055 hq (Nat.le_of_ble_eq_true rfl) (LCi_go (P := fun r h' => LE g uL 1058 [.ref 900, .ref 0, .ref 11, .ref 61, .int i, .retAddr 0, .retAddr 0] (.int r :: []) h' Q) ?_ (fun _ _ q => q))
  refine k_X11_spare  hJ1 (fun r2 h2 hJ2 s2 => ?_)
  refine l_pop dL_law_1058 rfl ?_
  refine l_goto 1583 dL_law_1059 (by decide) ?_
  exact K h2 hJ2 (RR_s hJ1 s2 (RR_s hJ s1 he))
set_option maxRecDepth 100000 in
set_option maxHeartbeats 4000000 in
theorem lc_32 {g : gT} {h : mh_T} {Q : Nat × Nat} (i : Int32) (k : Nat) (ei : i.toInt = (k : Int)) (hk : k + 7 ≤ gN g) (hN : gN g ≤ 3584) (hJ : JJ h) (he : RR h) (hq : Q.1 ≤ 601024 ∧ Q.2 ≤ 7293034) (K : ∀ h', JJ h' → RR h' → LE g uL 1583 [.ref 900, .ref 0, .ref 11, .ref 61, .int i, .retAddr 0, .retAddr 0] [] h' Q) : LE g uL 1062 [.ref 900, .ref 0, .ref 11, .ref 61, .int i, .retAddr 0, .retAddr 0] [] h Q := by
  refine l_aload_n dL_law_1062 rfl ?_
  refine cl_L_153 dL_law_1063 hq (Nat.le_of_ble_eq_true rfl) (LCi_go (P := fun r h' => LE g uL 1066 [.ref 900, .ref 0, .ref 11, .ref 61, .int i, .retAddr 0, .retAddr 0] (.int r :: []) h' Q) ?_ (fun _ _ q => q))
  refine k_X10_critical  hJ (fun r1 h1 hJ1 s1 => ?_)
  refine l_pop dL_law_1066 rfl ?_
  refine l_aload_n dL_law_1067 rfl ?_
  refine cl_L_156 dL_law_1068 hq (Nat.le_of_ble_eq_true rfl) (LCi_go (P := fun r h' => LE g uL 1071 [.ref 900, .ref 0, .ref 11, .ref 61, .int i, .retAddr 0, .retAddr 0] (.int r :: []) h' Q) ?_ (fun _ _ q => q))
  refine k_X11_critical  hJ1 (fun r2 h2 hJ2 s2 => ?_)
  refine l_pop dL_law_1071 rfl ?_
  refine l_goto 1583 dL_law_1072 (by decide) ?_
  exact K h2 hJ2 (RR_s hJ1 s2 (RR_s hJ s1 he))
set_option maxRecDepth 100000 in
set_option maxHeartbeats 4000000 in
theorem lc_33 {g : gT} {h : mh_T} {Q : Nat × Nat} (i : Int32) (k : Nat) (ei : i.toInt = (k : Int)) (hk : k + 7 ≤ gN g) (hN : gN g ≤ 3584) (hJ : JJ h) (he : RR h) (hq : Q.1 ≤ 601024 ∧ Q.2 ≤ 7293034) (K : ∀ h', JJ h' → RR h' → LE g uL 1583 [.ref 900, .ref 0, .ref 11, .ref 61, .int i, .retAddr 0, .retAddr 0] [] h' Q) : LE g uL 1075 [.ref 900, .ref 0, .ref 11, .ref 61, .int i, .retAddr 0, .retAddr 0] [] h Q := by
  refine l_aload_n dL_law_1075 rfl ?_
  refine cl_L_157 dL_law_1076 hq (Nat.le_of_ble_eq_true rfl) (LCi_go (P := fun r h' => LE g uL 1079 [.ref 900, .ref 0, .ref 11, .ref 61, .int i, .retAddr 0, .retAddr 0] (.int r :: []) h' Q) ?_ (fun _ _ q => q))
  refine k_X10_memory  hJ (fun r1 h1 hJ1 s1 => ?_)
  refine l_pop dL_law_1079 rfl ?_
  refine l_aload_n dL_law_1080 rfl ?_
  refine cl_L_160 dL_law_1081 hq (Nat.le_of_ble_eq_true rfl) (LCi_go (P := fun r h' => LE g uL 1084 [.ref 900, .ref 0, .ref 11, .ref 61, .int i, .retAddr 0, .retAddr 0] (.int r :: []) h' Q) ?_ (fun _ _ q => q))
  refine k_X11_memory  hJ1 (fun r2 h2 hJ2 s2 => ?_)
  refine l_pop dL_law_1084 rfl ?_
  refine l_goto 1583 dL_law_1085 (by decide) ?_
  exact K h2 hJ2 (RR_s hJ1 s2 (RR_s hJ s1 he))
set_option maxRecDepth 100000 in
set_option maxHeartbeats 4000000 in
theorem lc_34 {g : gT} {h : mh_T} {Q : Nat × Nat} (i : Int32) (k : Nat) (ei : i.toInt = (k : Int)) (hk : k + 7 ≤ gN g) (hN : gN g ≤ 3584) (hJ : JJ h) (he : RR h) (hq : Q.1 ≤ 601024 ∧ Q.2 ≤ 7293034) (K : ∀ h', JJ h' → RR h' → LE g uL 1583 [.ref 900, .ref 0, .ref 11, .ref 61, .int i, .retAddr 0, .retAddr 0] [] h' Q) : LE g uL 1088 [.ref 900, .ref 0, .ref 11, .ref 61, .int i, .retAddr 0, .retAddr 0] [] h Q := by
  have hin1 : vp_in (i + 1) (gN g) := l_in ei (c := 1) (d := 1) (by decide) (by omega) (by omega)
  have hin2 : vp_in (i + 2) (gN g) := l_in ei (c := 2) (d := 2) (by decide) (by omega) (by omega)
  have hin3 : vp_in (i + 3) (gN g) := l_in ei (c := 3) (d := 3) (by decide) (by omega) (by omega)
  refine l_aload_n dL_law_1088 rfl ?_
  refine l_aload_n dL_law_1089 rfl ?_
  refine l_iload dL_law_1090 rfl ?_
  refine l_iconst (v := 1) dL_law_1092 (by decide) ?_
  refine l_iadd dL_law_1093 ?_
  refine l_sld dL_law_1094 hin1 ?_
  refine l_aload_n dL_law_1095 rfl ?_
  refine l_iload dL_law_1096 rfl ?_
  refine l_iconst (v := 2) dL_law_1098 (by decide) ?_
  refine l_iadd dL_law_1099 ?_
  refine l_sld dL_law_1100 hin2 ?_
  refine l_aload_n dL_law_1101 rfl ?_
  refine l_iload dL_law_1102 rfl ?_
  refine l_iconst (v := 3) dL_law_1104 (by decide) ?_
  refine l_iadd dL_law_1105 ?_
  refine l_sld dL_law_1106 hin3 ?_
  suffices hj1 : ∀ v1 : Int32, v1 = (if (gx g (i + 3).toNatClampNeg) = 0 then 0 else 1) → LE g uL 1115 [.ref 900, .ref 0, .ref 11, .ref 61, .int i, .retAddr 0, .retAddr 0] [.int v1, .int (gx g (i + 2).toNatClampNeg), .int (gx g (i + 1).toNatClampNeg), .ref 0] h Q from l_if_eq 1114 dL_law_1107 (by decide) (fun z => l_iconst (v := 0) dL_law_1114 (by decide) (hj1 0 (if_pos z).symm)) (fun z => l_iconst (v := 1) dL_law_1110 (by decide) (l_goto 1115 dL_law_1111 (by decide) (hj1 1 (if_neg z).symm)))
  intro v1 hv1
  refine cl_L_161 dL_law_1115 hq (Nat.le_of_ble_eq_true rfl) (LCi_go (P := fun r h' => LE g uL 1118 [.ref 900, .ref 0, .ref 11, .ref 61, .int i, .retAddr 0, .retAddr 0] (.int r :: []) h' Q) ?_ (fun _ _ q => q))
  refine k_X10_machine (gx g (i + 1).toNatClampNeg) (gx g (i + 2).toNatClampNeg) v1 hJ (fun r1 h1 hJ1 s1 => ?_)
  refine l_pop dL_law_1118 rfl ?_
  refine l_aload_n dL_law_1119 rfl ?_
  refine l_aload_n dL_law_1120 rfl ?_
  refine l_iload dL_law_1121 rfl ?_
  refine l_iconst (v := 1) dL_law_1123 (by decide) ?_
  refine l_iadd dL_law_1124 ?_
  refine l_sld dL_law_1125 hin1 ?_
  refine l_aload_n dL_law_1126 rfl ?_
  refine l_iload dL_law_1127 rfl ?_
  refine l_iconst (v := 2) dL_law_1129 (by decide) ?_
  refine l_iadd dL_law_1130 ?_
  refine l_sld dL_law_1131 hin2 ?_
  refine l_aload_n dL_law_1132 rfl ?_
  refine l_iload dL_law_1133 rfl ?_
  refine l_iconst (v := 3) dL_law_1135 (by decide) ?_
  refine l_iadd dL_law_1136 ?_
  refine l_sld dL_law_1137 hin3 ?_
  suffices hj2 : ∀ v2 : Int32, v2 = (if (gx g (i + 3).toNatClampNeg) = 0 then 0 else 1) → LE g uL 1146 [.ref 900, .ref 0, .ref 11, .ref 61, .int i, .retAddr 0, .retAddr 0] [.int v2, .int (gx g (i + 2).toNatClampNeg), .int (gx g (i + 1).toNatClampNeg), .ref 11] h1 Q from l_if_eq 1145 dL_law_1138 (by decide) (fun z => l_iconst (v := 0) dL_law_1145 (by decide) (hj2 0 (if_pos z).symm)) (fun z => l_iconst (v := 1) dL_law_1141 (by decide) (l_goto 1146 dL_law_1142 (by decide) (hj2 1 (if_neg z).symm)))
  intro v2 hv2
  rw [show v2 = v1 from hv2.trans hv1.symm]
  refine cl_L_165 dL_law_1146 hq (Nat.le_of_ble_eq_true rfl) (LCi_go (P := fun r h' => LE g uL 1149 [.ref 900, .ref 0, .ref 11, .ref 61, .int i, .retAddr 0, .retAddr 0] (.int r :: []) h' Q) ?_ (fun _ _ q => q))
  refine k_X11_machine (gx g (i + 1).toNatClampNeg) (gx g (i + 2).toNatClampNeg) v1 hJ1 (fun r2 h2 hJ2 s2 => ?_)
  refine l_pop dL_law_1149 rfl ?_
  refine l_goto 1583 dL_law_1150 (by decide) ?_
  exact K h2 hJ2 (RR_s hJ1 s2 (RR_s hJ s1 he))
set_option maxRecDepth 100000 in
set_option maxHeartbeats 4000000 in
theorem lc_35 {g : gT} {h : mh_T} {Q : Nat × Nat} (i : Int32) (k : Nat) (ei : i.toInt = (k : Int)) (hk : k + 7 ≤ gN g) (hN : gN g ≤ 3584) (hJ : JJ h) (he : RR h) (hq : Q.1 ≤ 601024 ∧ Q.2 ≤ 7293034) (K : ∀ h', JJ h' → RR h' → LE g uL 1583 [.ref 900, .ref 0, .ref 11, .ref 61, .int i, .retAddr 0, .retAddr 0] [] h' Q) : LE g uL 1153 [.ref 900, .ref 0, .ref 11, .ref 61, .int i, .retAddr 0, .retAddr 0] [] h Q := by
  have hin1 : vp_in (i + 1) (gN g) := l_in ei (c := 1) (d := 1) (by decide) (by omega) (by omega)
  refine l_aload_n dL_law_1153 rfl ?_
  refine l_aload_n dL_law_1154 rfl ?_
  refine l_iload dL_law_1155 rfl ?_
  refine l_iconst (v := 1) dL_law_1157 (by decide) ?_
  refine l_iadd dL_law_1158 ?_
  refine l_sld dL_law_1159 hin1 ?_
  refine cl_L_166 dL_law_1160 hq (Nat.le_of_ble_eq_true rfl) (LCi_go (P := fun r h' => LE g uL 1163 [.ref 900, .ref 0, .ref 11, .ref 61, .int i, .retAddr 0, .retAddr 0] (.int r :: []) h' Q) ?_ (fun _ _ q => q))
  refine k_X10_flip (gx g (i + 1).toNatClampNeg) hJ (RH_pc he.2.2.2) (fun r1 h1 hJ1 s1 => ?_)
  refine l_pop dL_law_1163 rfl ?_
  refine l_aload_n dL_law_1164 rfl ?_
  refine l_aload_n dL_law_1165 rfl ?_
  refine l_iload dL_law_1166 rfl ?_
  refine l_iconst (v := 1) dL_law_1168 (by decide) ?_
  refine l_iadd dL_law_1169 ?_
  refine l_sld dL_law_1170 hin1 ?_
  refine cl_L_170 dL_law_1171 hq (Nat.le_of_ble_eq_true rfl) (LCi_go (P := fun r h' => LE g uL 1174 [.ref 900, .ref 0, .ref 11, .ref 61, .int i, .retAddr 0, .retAddr 0] (.int r :: []) h' Q) ?_ (fun _ _ q => q))
  refine k_X11_flip (gx g (i + 1).toNatClampNeg) hJ1 (PR_lr he.2.2.2 s1.2.1) (fun r2 h2 hJ2 s2 => ?_)
  refine l_pop dL_law_1174 rfl ?_
  refine l_goto 1583 dL_law_1175 (by decide) ?_
  exact K h2 hJ2 (flip_RR hJ hJ1 he s1 s2)
set_option maxRecDepth 100000 in
set_option maxHeartbeats 4000000 in
theorem lc_36 {g : gT} {h : mh_T} {Q : Nat × Nat} (i : Int32) (k : Nat) (ei : i.toInt = (k : Int)) (hk : k + 7 ≤ gN g) (hN : gN g ≤ 3584) (hJ : JJ h) (he : RR h) (hq : Q.1 ≤ 601024 ∧ Q.2 ≤ 7293034) (K : ∀ h', JJ h' → RR h' → LE g uL 1583 [.ref 900, .ref 0, .ref 11, .ref 61, .int i, .retAddr 0, .retAddr 0] [] h' Q) : LE g uL 1178 [.ref 900, .ref 0, .ref 11, .ref 61, .int i, .retAddr 0, .retAddr 0] [] h Q := by
  have hin1 : vp_in (i + 1) (gN g) := l_in ei (c := 1) (d := 1) (by decide) (by omega) (by omega)
  refine l_aload_n dL_law_1178 rfl ?_
  refine l_aload_n dL_law_1179 rfl ?_
  refine l_iload dL_law_1180 rfl ?_
  refine l_iconst (v := 1) dL_law_1182 (by decide) ?_
  refine l_iadd dL_law_1183 ?_
  refine l_sld dL_law_1184 hin1 ?_
  refine cl_L_171 dL_law_1185 hq (Nat.le_of_ble_eq_true rfl) (LCi_go (P := fun r h' => LE g uL 1188 [.ref 900, .ref 0, .ref 11, .ref 61, .int i, .retAddr 0, .retAddr 0] (.int r :: []) h' Q) ?_ (fun _ _ q => q))
  refine k_X10_drop (gx g (i + 1).toNatClampNeg) hJ (RH_pc he.2.2.2) (fun r1 h1 hJ1 s1 => ?_)
  refine l_pop dL_law_1188 rfl ?_
  refine l_aload_n dL_law_1189 rfl ?_
  refine l_aload_n dL_law_1190 rfl ?_
  refine l_iload dL_law_1191 rfl ?_
  refine l_iconst (v := 1) dL_law_1193 (by decide) ?_
  refine l_iadd dL_law_1194 ?_
  refine l_sld dL_law_1195 hin1 ?_
  refine cl_L_174 dL_law_1196 hq (Nat.le_of_ble_eq_true rfl) (LCi_go (P := fun r h' => LE g uL 1199 [.ref 900, .ref 0, .ref 11, .ref 61, .int i, .retAddr 0, .retAddr 0] (.int r :: []) h' Q) ?_ (fun _ _ q => q))
  refine k_X11_drop (gx g (i + 1).toNatClampNeg) hJ1 (PR_lr he.2.2.2 s1.2.1) (fun r2 h2 hJ2 s2 => ?_)
  refine l_pop dL_law_1199 rfl ?_
  refine l_goto 1583 dL_law_1200 (by decide) ?_
  exact K h2 hJ2 (drop_RR hJ hJ1 he s1 s2)
set_option maxRecDepth 100000 in
set_option maxHeartbeats 4000000 in
theorem lc_37 {g : gT} {h : mh_T} {Q : Nat × Nat} (i : Int32) (k : Nat) (ei : i.toInt = (k : Int)) (hk : k + 7 ≤ gN g) (hN : gN g ≤ 3584) (hJ : JJ h) (he : RR h) (hq : Q.1 ≤ 601024 ∧ Q.2 ≤ 7293034) (K : ∀ h', JJ h' → RR h' → LE g uL 1583 [.ref 900, .ref 0, .ref 11, .ref 61, .int i, .retAddr 0, .retAddr 0] [] h' Q) : LE g uL 1203 [.ref 900, .ref 0, .ref 11, .ref 61, .int i, .retAddr 0, .retAddr 0] [] h Q := by
  have hin1 : vp_in (i + 1) (gN g) := l_in ei (c := 1) (d := 1) (by decide) (by omega) (by omega)
  refine l_aload_n dL_law_1203 rfl ?_
  refine l_aload_n dL_law_1204 rfl ?_
  refine l_iload dL_law_1205 rfl ?_
  refine l_iconst (v := 1) dL_law_1207 (by decide) ?_
  refine l_iadd dL_law_1208 ?_
  refine l_sld dL_law_1209 hin1 ?_
  refine cl_L_175 dL_law_1210 hq (Nat.le_of_ble_eq_true rfl) (LCi_go (P := fun r h' => LE g uL 1213 [.ref 900, .ref 0, .ref 11, .ref 61, .int i, .retAddr 0, .retAddr 0] (.int r :: []) h' Q) ?_ (fun _ _ q => q))
  refine k_X10_forget (gx g (i + 1).toNatClampNeg) hJ (RH_pc he.2.2.2) (fun r1 h1 hJ1 s1 => ?_)
  refine l_pop dL_law_1213 rfl ?_
  refine l_aload_n dL_law_1214 rfl ?_
  refine l_aload_n dL_law_1215 rfl ?_
  refine l_iload dL_law_1216 rfl ?_
  refine l_iconst (v := 1) dL_law_1218 (by decide) ?_
  refine l_iadd dL_law_1219 ?_
  refine l_sld dL_law_1220 hin1 ?_
  refine cl_L_178 dL_law_1221 hq (Nat.le_of_ble_eq_true rfl) (LCi_go (P := fun r h' => LE g uL 1224 [.ref 900, .ref 0, .ref 11, .ref 61, .int i, .retAddr 0, .retAddr 0] (.int r :: []) h' Q) ?_ (fun _ _ q => q))
  refine k_X11_forget (gx g (i + 1).toNatClampNeg) hJ1 (PR_lr he.2.2.2 s1.2.1) (fun r2 h2 hJ2 s2 => ?_)
  refine l_pop dL_law_1224 rfl ?_
  refine l_goto 1583 dL_law_1225 (by decide) ?_
  exact K h2 hJ2 (forget_RR hJ hJ1 he s1 s2)
set_option maxRecDepth 100000 in
set_option maxHeartbeats 4000000 in
theorem lc_38 {g : gT} {h : mh_T} {Q : Nat × Nat} (i : Int32) (k : Nat) (ei : i.toInt = (k : Int)) (hk : k + 7 ≤ gN g) (hN : gN g ≤ 3584) (hJ : JJ h) (he : RR h) (hq : Q.1 ≤ 601024 ∧ Q.2 ≤ 7293034) (K : ∀ h', JJ h' → RR h' → LE g uL 1583 [.ref 900, .ref 0, .ref 11, .ref 61, .int i, .retAddr 0, .retAddr 0] [] h' Q) : LE g uL 1228 [.ref 900, .ref 0, .ref 11, .ref 61, .int i, .retAddr 0, .retAddr 0] [] h Q := by
  have hin1 : vp_in (i + 1) (gN g) := l_in ei (c := 1) (d := 1) (by decide) (by omega) (by omega)
  have hin2 : vp_in (i + 2) (gN g) := l_in ei (c := 2) (d := 2) (by decide) (by omega) (by omega)
  have hin3 : vp_in (i + 3) (gN g) := l_in ei (c := 3) (d := 3) (by decide) (by omega) (by omega)
  have hin4 : vp_in (i + 4) (gN g) := l_in ei (c := 4) (d := 4) (by decide) (by omega) (by omega)
  refine l_aload_n dL_law_1228 rfl ?_
  refine l_aload_n dL_law_1229 rfl ?_
  refine l_iload dL_law_1230 rfl ?_
  refine l_iconst (v := 1) dL_law_1232 (by decide) ?_
  refine l_iadd dL_law_1233 ?_
  refine l_sld dL_law_1234 hin1 ?_
  refine l_aload_n dL_law_1235 rfl ?_
  refine l_iload dL_law_1236 rfl ?_
  refine l_iconst (v := 2) dL_law_1238 (by decide) ?_
  refine l_iadd dL_law_1239 ?_
  refine l_sld dL_law_1240 hin2 ?_
  refine l_aload_n dL_law_1241 rfl ?_
  refine l_iload dL_law_1242 rfl ?_
  refine l_iconst (v := 3) dL_law_1244 (by decide) ?_
  refine l_iadd dL_law_1245 ?_
  refine l_sld dL_law_1246 hin3 ?_
  refine l_aload_n dL_law_1247 rfl ?_
  refine l_iload dL_law_1248 rfl ?_
  refine l_iconst (v := 4) dL_law_1250 (by decide) ?_
  refine l_iadd dL_law_1251 ?_
  refine l_sld dL_law_1252 hin4 ?_
  refine cl_L_179 dL_law_1253 hq (Nat.le_of_ble_eq_true rfl) (LCi_go (P := fun r h' => LE g uL 1256 [.ref 900, .ref 0, .ref 11, .ref 61, .int i, .retAddr 0, .retAddr 0] (.int r :: []) h' Q) ?_ (fun _ _ q => q))
  refine k_X10_shift (gx g (i + 1).toNatClampNeg) (gx g (i + 2).toNatClampNeg) (gx g (i + 3).toNatClampNeg) (gx g (i + 4).toNatClampNeg) hJ (RH_pc he.2.2.2) (fun r1 h1 hJ1 s1 => ?_)
  refine l_pop dL_law_1256 rfl ?_
  refine l_aload_n dL_law_1257 rfl ?_
  refine l_aload_n dL_law_1258 rfl ?_
  refine l_iload dL_law_1259 rfl ?_
  refine l_iconst (v := 1) dL_law_1261 (by decide) ?_
  refine l_iadd dL_law_1262 ?_
  refine l_sld dL_law_1263 hin1 ?_
  refine l_aload_n dL_law_1264 rfl ?_
  refine l_iload dL_law_1265 rfl ?_
  refine l_iconst (v := 2) dL_law_1267 (by decide) ?_
  refine l_iadd dL_law_1268 ?_
  refine l_sld dL_law_1269 hin2 ?_
  refine l_aload_n dL_law_1270 rfl ?_
  refine l_iload dL_law_1271 rfl ?_
  refine l_iconst (v := 3) dL_law_1273 (by decide) ?_
  refine l_iadd dL_law_1274 ?_
  refine l_sld dL_law_1275 hin3 ?_
  refine l_aload_n dL_law_1276 rfl ?_
  refine l_iload dL_law_1277 rfl ?_
  refine l_iconst (v := 4) dL_law_1279 (by decide) ?_
  refine l_iadd dL_law_1280 ?_
  refine l_sld dL_law_1281 hin4 ?_
  refine cl_L_183 dL_law_1282 hq (Nat.le_of_ble_eq_true rfl) (LCi_go (P := fun r h' => LE g uL 1285 [.ref 900, .ref 0, .ref 11, .ref 61, .int i, .retAddr 0, .retAddr 0] (.int r :: []) h' Q) ?_ (fun _ _ q => q))
  refine k_X11_shift (gx g (i + 1).toNatClampNeg) (gx g (i + 2).toNatClampNeg) (gx g (i + 3).toNatClampNeg) (gx g (i + 4).toNatClampNeg) hJ1 (PR_lr he.2.2.2 s1.2.1) (fun r2 h2 hJ2 s2 => ?_)
  refine l_pop dL_law_1285 rfl ?_
  refine l_goto 1583 dL_law_1286 (by decide) ?_
  exact K h2 hJ2 (shift_RR hJ hJ1 he s1 s2)
set_option maxRecDepth 100000 in
set_option maxHeartbeats 4000000 in
theorem lc_39 {g : gT} {h : mh_T} {Q : Nat × Nat} (i : Int32) (k : Nat) (ei : i.toInt = (k : Int)) (hk : k + 7 ≤ gN g) (hN : gN g ≤ 3584) (hJ : JJ h) (he : RR h) (hq : Q.1 ≤ 601024 ∧ Q.2 ≤ 7293034) (K : ∀ h', JJ h' → RR h' → LE g uL 1583 [.ref 900, .ref 0, .ref 11, .ref 61, .int i, .retAddr 0, .retAddr 0] [] h' Q) : LE g uL 1289 [.ref 900, .ref 0, .ref 11, .ref 61, .int i, .retAddr 0, .retAddr 0] [] h Q := by
  refine l_aload_n dL_law_1289 rfl ?_
  refine cl_L_184 dL_law_1290 hq (Nat.le_of_ble_eq_true rfl) (LCi_go (P := fun r h' => LE g uL 1293 [.ref 900, .ref 0, .ref 11, .ref 61, .int i, .retAddr 0, .retAddr 0] (.int r :: []) h' Q) ?_ (fun _ _ q => q))
  refine k_X10_undo  hJ (RH_pc he.2.2.2) (fun r1 h1 hJ1 s1 => ?_)
  refine l_pop dL_law_1293 rfl ?_
  refine l_aload_n dL_law_1294 rfl ?_
  refine cl_L_188 dL_law_1295 hq (Nat.le_of_ble_eq_true rfl) (LCi_go (P := fun r h' => LE g uL 1298 [.ref 900, .ref 0, .ref 11, .ref 61, .int i, .retAddr 0, .retAddr 0] (.int r :: []) h' Q) ?_ (fun _ _ q => q))
  refine k_X11_undo  hJ1 (PR_lr he.2.2.2 s1.2.1) (fun r2 h2 hJ2 s2 => ?_)
  refine l_pop dL_law_1298 rfl ?_
  refine l_goto 1583 dL_law_1299 (by decide) ?_
  exact K h2 hJ2 (undo_RR hJ hJ1 he s1 s2)
set_option maxRecDepth 100000 in
set_option maxHeartbeats 4000000 in
theorem lc_40 {g : gT} {h : mh_T} {Q : Nat × Nat} (i : Int32) (k : Nat) (ei : i.toInt = (k : Int)) (hk : k + 7 ≤ gN g) (hN : gN g ≤ 3584) (hJ : JJ h) (he : RR h) (hq : Q.1 ≤ 601024 ∧ Q.2 ≤ 7293034) (K : ∀ h', JJ h' → RR h' → LE g uL 1583 [.ref 900, .ref 0, .ref 11, .ref 61, .int i, .retAddr 0, .retAddr 0] [] h' Q) : LE g uL 1302 [.ref 900, .ref 0, .ref 11, .ref 61, .int i, .retAddr 0, .retAddr 0] [] h Q := by
  refine l_aload_n dL_law_1302 rfl ?_
  refine cl_L_189 dL_law_1303 hq (Nat.le_of_ble_eq_true rfl) (LCi_go (P := fun r h' => LE g uL 1306 [.ref 900, .ref 0, .ref 11, .ref 61, .int i, .retAddr 0, .retAddr 0] (.int r :: []) h' Q) ?_ (fun _ _ q => q))
  refine k_X10_redo  hJ (RH_pc he.2.2.2) (fun r1 h1 hJ1 s1 => ?_)
  refine l_pop dL_law_1306 rfl ?_
  refine l_aload_n dL_law_1307 rfl ?_
  refine cl_L_192 dL_law_1308 hq (Nat.le_of_ble_eq_true rfl) (LCi_go (P := fun r h' => LE g uL 1311 [.ref 900, .ref 0, .ref 11, .ref 61, .int i, .retAddr 0, .retAddr 0] (.int r :: []) h' Q) ?_ (fun _ _ q => q))
  refine k_X11_redo  hJ1 (PR_lr he.2.2.2 s1.2.1) (fun r2 h2 hJ2 s2 => ?_)
  refine l_pop dL_law_1311 rfl ?_
  refine l_goto 1583 dL_law_1312 (by decide) ?_
  exact K h2 hJ2 (redo_RR hJ hJ1 he s1 s2)
set_option maxRecDepth 100000 in
set_option maxHeartbeats 4000000 in
theorem lc_41 {g : gT} {h : mh_T} {Q : Nat × Nat} (i : Int32) (k : Nat) (ei : i.toInt = (k : Int)) (hk : k + 7 ≤ gN g) (hN : gN g ≤ 3584) (hJ : JJ h) (he : RR h) (hq : Q.1 ≤ 601024 ∧ Q.2 ≤ 7293034) (K : ∀ h', JJ h' → RR h' → LE g uL 1583 [.ref 900, .ref 0, .ref 11, .ref 61, .int i, .retAddr 0, .retAddr 0] [] h' Q) : LE g uL 1315 [.ref 900, .ref 0, .ref 11, .ref 61, .int i, .retAddr 0, .retAddr 0] [] h Q := by
  refine l_aload_n dL_law_1315 rfl ?_
  refine cl_L_193 dL_law_1316 hq (Nat.le_of_ble_eq_true rfl) (LCi_go (P := fun r h' => LE g uL 1319 [.ref 900, .ref 0, .ref 11, .ref 61, .int i, .retAddr 0, .retAddr 0] (.int r :: []) h' Q) ?_ (fun _ _ q => q))
  refine k_X10_mark  hJ (RH_pc he.2.2.2) (fun r1 h1 hJ1 s1 => ?_)
  refine l_pop dL_law_1319 rfl ?_
  refine l_aload_n dL_law_1320 rfl ?_
  refine cl_L_196 dL_law_1321 hq (Nat.le_of_ble_eq_true rfl) (LCi_go (P := fun r h' => LE g uL 1324 [.ref 900, .ref 0, .ref 11, .ref 61, .int i, .retAddr 0, .retAddr 0] (.int r :: []) h' Q) ?_ (fun _ _ q => q))
  refine k_X11_mark  hJ1 (PR_lr he.2.2.2 s1.2.1) (fun r2 h2 hJ2 s2 => ?_)
  refine l_pop dL_law_1324 rfl ?_
  refine l_goto 1583 dL_law_1325 (by decide) ?_
  exact K h2 hJ2 (mark_RR hJ hJ1 he s1 s2)
set_option maxRecDepth 100000 in
set_option maxHeartbeats 4000000 in
theorem lc_42 {g : gT} {h : mh_T} {Q : Nat × Nat} (i : Int32) (k : Nat) (ei : i.toInt = (k : Int)) (hk : k + 7 ≤ gN g) (hN : gN g ≤ 3584) (hJ : JJ h) (he : RR h) (hq : Q.1 ≤ 601024 ∧ Q.2 ≤ 7293034) (K : ∀ h', JJ h' → RR h' → LE g uL 1583 [.ref 900, .ref 0, .ref 11, .ref 61, .int i, .retAddr 0, .retAddr 0] [] h' Q) : LE g uL 1328 [.ref 900, .ref 0, .ref 11, .ref 61, .int i, .retAddr 0, .retAddr 0] [] h Q := by
  have hin1 : vp_in (i + 1) (gN g) := l_in ei (c := 1) (d := 1) (by decide) (by omega) (by omega)
  refine l_aload_n dL_law_1328 rfl ?_
  refine l_aload_n dL_law_1329 rfl ?_
  refine l_iload dL_law_1330 rfl ?_
  refine l_iconst (v := 1) dL_law_1332 (by decide) ?_
  refine l_iadd dL_law_1333 ?_
  refine l_sld dL_law_1334 hin1 ?_
  refine cl_L_197 dL_law_1335 hq (Nat.le_of_ble_eq_true rfl) (LCi_go (P := fun r h' => LE g uL 1338 [.ref 900, .ref 0, .ref 11, .ref 61, .int i, .retAddr 0, .retAddr 0] (.int r :: []) h' Q) ?_ (fun _ _ q => q))
  refine k_X10_back (gx g (i + 1).toNatClampNeg) hJ (RH_pc he.2.2.2) (fun r1 h1 hJ1 s1 => ?_)
  refine l_pop dL_law_1338 rfl ?_
  refine l_aload_n dL_law_1339 rfl ?_
  refine l_aload_n dL_law_1340 rfl ?_
  refine l_iload dL_law_1341 rfl ?_
  refine l_iconst (v := 1) dL_law_1343 (by decide) ?_
  refine l_iadd dL_law_1344 ?_
  refine l_sld dL_law_1345 hin1 ?_
  refine cl_L_200 dL_law_1346 hq (Nat.le_of_ble_eq_true rfl) (LCi_go (P := fun r h' => LE g uL 1349 [.ref 900, .ref 0, .ref 11, .ref 61, .int i, .retAddr 0, .retAddr 0] (.int r :: []) h' Q) ?_ (fun _ _ q => q))
  refine k_X11_back (gx g (i + 1).toNatClampNeg) hJ1 (PR_lr he.2.2.2 s1.2.1) (fun r2 h2 hJ2 s2 => ?_)
  refine l_pop dL_law_1349 rfl ?_
  refine l_goto 1583 dL_law_1350 (by decide) ?_
  exact K h2 hJ2 (back_RR hJ hJ1 he s1 s2)
set_option maxRecDepth 100000 in
set_option maxHeartbeats 4000000 in
theorem lc_43 {g : gT} {h : mh_T} {Q : Nat × Nat} (i : Int32) (k : Nat) (ei : i.toInt = (k : Int)) (hk : k + 7 ≤ gN g) (hN : gN g ≤ 3584) (hJ : JJ h) (he : RR h) (hq : Q.1 ≤ 601024 ∧ Q.2 ≤ 7293034) (K : ∀ h', JJ h' → RR h' → LE g uL 1583 [.ref 900, .ref 0, .ref 11, .ref 61, .int i, .retAddr 0, .retAddr 0] [] h' Q) : LE g uL 1353 [.ref 900, .ref 0, .ref 11, .ref 61, .int i, .retAddr 0, .retAddr 0] [] h Q := by
  have hin1 : vp_in (i + 1) (gN g) := l_in ei (c := 1) (d := 1) (by decide) (by omega) (by omega)
  have hin2 : vp_in (i + 2) (gN g) := l_in ei (c := 2) (d := 2) (by decide) (by omega) (by omega)
  refine l_aload_n dL_law_1353 rfl ?_
  refine l_aload_n dL_law_1354 rfl ?_
  refine l_iload dL_law_1355 rfl ?_
  refine l_iconst (v := 1) dL_law_1357 (by decide) ?_
  refine l_iadd dL_law_1358 ?_
  refine l_sld dL_law_1359 hin1 ?_
  refine l_aload_n dL_law_1360 rfl ?_
  refine l_iload dL_law_1361 rfl ?_
  refine l_iconst (v := 2) dL_law_1363 (by decide) ?_
  refine l_iadd dL_law_1364 ?_
  refine l_sld dL_law_1365 hin2 ?_
  refine cl_L_201 dL_law_1366 hq (Nat.le_of_ble_eq_true rfl) (LCi_go (P := fun r h' => LE g uL 1369 [.ref 900, .ref 0, .ref 11, .ref 61, .int i, .retAddr 0, .retAddr 0] (.int r :: []) h' Q) ?_ (fun _ _ q => q))
  refine k_X10_act (gx g (i + 1).toNatClampNeg) (gx g (i + 2).toNatClampNeg) hJ (fun r1 h1 hJ1 s1 => ?_)
  refine l_pop dL_law_1369 rfl ?_
  refine l_aload_n dL_law_1370 rfl ?_
  refine l_aload_n dL_law_1371 rfl ?_
  refine l_iload dL_law_1372 rfl ?_
  refine l_iconst (v := 1) dL_law_1374 (by decide) ?_
  refine l_iadd dL_law_1375 ?_
  refine l_sld dL_law_1376 hin1 ?_
  refine l_aload_n dL_law_1377 rfl ?_
  refine l_iload dL_law_1378 rfl ?_
  refine l_iconst (v := 2) dL_law_1380 (by decide) ?_
  refine l_iadd dL_law_1381 ?_
  refine l_sld dL_law_1382 hin2 ?_
  refine cl_L_204 dL_law_1383 hq (Nat.le_of_ble_eq_true rfl) (LCi_go (P := fun r h' => LE g uL 1386 [.ref 900, .ref 0, .ref 11, .ref 61, .int i, .retAddr 0, .retAddr 0] (.int r :: []) h' Q) ?_ (fun _ _ q => q))
  refine k_X11_act (gx g (i + 1).toNatClampNeg) (gx g (i + 2).toNatClampNeg) hJ1 (fun r2 h2 hJ2 s2 => ?_)
  refine l_pop dL_law_1386 rfl ?_
  refine l_goto 1583 dL_law_1387 (by decide) ?_
  exact K h2 hJ2 (RR_s hJ1 s2 (RR_s hJ s1 he))
set_option maxRecDepth 100000 in
set_option maxHeartbeats 4000000 in
theorem lc_44 {g : gT} {h : mh_T} {Q : Nat × Nat} (i : Int32) (k : Nat) (ei : i.toInt = (k : Int)) (hk : k + 7 ≤ gN g) (hN : gN g ≤ 3584) (hJ : JJ h) (he : RR h) (hq : Q.1 ≤ 601024 ∧ Q.2 ≤ 7293034) (K : ∀ h', JJ h' → RR h' → LE g uL 1583 [.ref 900, .ref 0, .ref 11, .ref 61, .int i, .retAddr 0, .retAddr 0] [] h' Q) : LE g uL 1390 [.ref 900, .ref 0, .ref 11, .ref 61, .int i, .retAddr 0, .retAddr 0] [] h Q := by
  have hin1 : vp_in (i + 1) (gN g) := l_in ei (c := 1) (d := 1) (by decide) (by omega) (by omega)
  have hin2 : vp_in (i + 2) (gN g) := l_in ei (c := 2) (d := 2) (by decide) (by omega) (by omega)
  refine l_aload_n dL_law_1390 rfl ?_
  refine l_aload_n dL_law_1391 rfl ?_
  refine l_iload dL_law_1392 rfl ?_
  refine l_iconst (v := 1) dL_law_1394 (by decide) ?_
  refine l_iadd dL_law_1395 ?_
  refine l_sld dL_law_1396 hin1 ?_
  refine l_aload_n dL_law_1397 rfl ?_
  refine l_iload dL_law_1398 rfl ?_
  refine l_iconst (v := 2) dL_law_1400 (by decide) ?_
  refine l_iadd dL_law_1401 ?_
  refine l_sld dL_law_1402 hin2 ?_
  refine cl_L_205 dL_law_1403 hq (Nat.le_of_ble_eq_true rfl) (LCi_go (P := fun r h' => LE g uL 1406 [.ref 900, .ref 0, .ref 11, .ref 61, .int i, .retAddr 0, .retAddr 0] (.int r :: []) h' Q) ?_ (fun _ _ q => q))
  refine k_X10_times (gx g (i + 1).toNatClampNeg) (gx g (i + 2).toNatClampNeg) hJ (fun r1 h1 hJ1 s1 => ?_)
  refine l_pop dL_law_1406 rfl ?_
  refine l_aload_n dL_law_1407 rfl ?_
  refine l_aload_n dL_law_1408 rfl ?_
  refine l_iload dL_law_1409 rfl ?_
  refine l_iconst (v := 1) dL_law_1411 (by decide) ?_
  refine l_iadd dL_law_1412 ?_
  refine l_sld dL_law_1413 hin1 ?_
  refine l_aload_n dL_law_1414 rfl ?_
  refine l_iload dL_law_1415 rfl ?_
  refine l_iconst (v := 2) dL_law_1417 (by decide) ?_
  refine l_iadd dL_law_1418 ?_
  refine l_sld dL_law_1419 hin2 ?_
  refine cl_L_208 dL_law_1420 hq (Nat.le_of_ble_eq_true rfl) (LCi_go (P := fun r h' => LE g uL 1423 [.ref 900, .ref 0, .ref 11, .ref 61, .int i, .retAddr 0, .retAddr 0] (.int r :: []) h' Q) ?_ (fun _ _ q => q))
  refine k_X11_times (gx g (i + 1).toNatClampNeg) (gx g (i + 2).toNatClampNeg) hJ1 (fun r2 h2 hJ2 s2 => ?_)
  refine l_pop dL_law_1423 rfl ?_
  refine l_goto 1583 dL_law_1424 (by decide) ?_
  exact K h2 hJ2 (RR_s hJ1 s2 (RR_s hJ s1 he))
set_option maxRecDepth 100000 in
set_option maxHeartbeats 4000000 in
theorem lc_45 {g : gT} {h : mh_T} {Q : Nat × Nat} (i : Int32) (k : Nat) (ei : i.toInt = (k : Int)) (hk : k + 7 ≤ gN g) (hN : gN g ≤ 3584) (hJ : JJ h) (he : RR h) (hq : Q.1 ≤ 601024 ∧ Q.2 ≤ 7293034) (K : ∀ h', JJ h' → RR h' → LE g uL 1583 [.ref 900, .ref 0, .ref 11, .ref 61, .int i, .retAddr 0, .retAddr 0] [] h' Q) : LE g uL 1427 [.ref 900, .ref 0, .ref 11, .ref 61, .int i, .retAddr 0, .retAddr 0] [] h Q := by
  have hin1 : vp_in (i + 1) (gN g) := l_in ei (c := 1) (d := 1) (by decide) (by omega) (by omega)
  have hin2 : vp_in (i + 2) (gN g) := l_in ei (c := 2) (d := 2) (by decide) (by omega) (by omega)
  refine l_aload_n dL_law_1427 rfl ?_
  refine l_aload_n dL_law_1428 rfl ?_
  refine l_iload dL_law_1429 rfl ?_
  refine l_iconst (v := 1) dL_law_1431 (by decide) ?_
  refine l_iadd dL_law_1432 ?_
  refine l_sld dL_law_1433 hin1 ?_
  refine l_aload_n dL_law_1434 rfl ?_
  refine l_iload dL_law_1435 rfl ?_
  refine l_iconst (v := 2) dL_law_1437 (by decide) ?_
  refine l_iadd dL_law_1438 ?_
  refine l_sld dL_law_1439 hin2 ?_
  suffices hj1 : ∀ v1 : Int32, v1 = (if (gx g (i + 2).toNatClampNeg) = 0 then 0 else 1) → LE g uL 1448 [.ref 900, .ref 0, .ref 11, .ref 61, .int i, .retAddr 0, .retAddr 0] [.int v1, .int (gx g (i + 1).toNatClampNeg), .ref 0] h Q from l_if_eq 1447 dL_law_1440 (by decide) (fun z => l_iconst (v := 0) dL_law_1447 (by decide) (hj1 0 (if_pos z).symm)) (fun z => l_iconst (v := 1) dL_law_1443 (by decide) (l_goto 1448 dL_law_1444 (by decide) (hj1 1 (if_neg z).symm)))
  intro v1 hv1
  refine cl_L_209 dL_law_1448 hq (Nat.le_of_ble_eq_true rfl) (LCi_go (P := fun r h' => LE g uL 1451 [.ref 900, .ref 0, .ref 11, .ref 61, .int i, .retAddr 0, .retAddr 0] (.int r :: []) h' Q) ?_ (fun _ _ q => q))
  refine k_X10_look (gx g (i + 1).toNatClampNeg) v1 hJ (fun r1 h1 hJ1 s1 => ?_)
  refine l_pop dL_law_1451 rfl ?_
  refine l_aload_n dL_law_1452 rfl ?_
  refine l_aload_n dL_law_1453 rfl ?_
  refine l_iload dL_law_1454 rfl ?_
  refine l_iconst (v := 1) dL_law_1456 (by decide) ?_
  refine l_iadd dL_law_1457 ?_
  refine l_sld dL_law_1458 hin1 ?_
  refine l_aload_n dL_law_1459 rfl ?_
  refine l_iload dL_law_1460 rfl ?_
  refine l_iconst (v := 2) dL_law_1462 (by decide) ?_
  refine l_iadd dL_law_1463 ?_
  refine l_sld dL_law_1464 hin2 ?_
  suffices hj2 : ∀ v2 : Int32, v2 = (if (gx g (i + 2).toNatClampNeg) = 0 then 0 else 1) → LE g uL 1473 [.ref 900, .ref 0, .ref 11, .ref 61, .int i, .retAddr 0, .retAddr 0] [.int v2, .int (gx g (i + 1).toNatClampNeg), .ref 11] h1 Q from l_if_eq 1472 dL_law_1465 (by decide) (fun z => l_iconst (v := 0) dL_law_1472 (by decide) (hj2 0 (if_pos z).symm)) (fun z => l_iconst (v := 1) dL_law_1468 (by decide) (l_goto 1473 dL_law_1469 (by decide) (hj2 1 (if_neg z).symm)))
  intro v2 hv2
  rw [show v2 = v1 from hv2.trans hv1.symm]
  refine cl_L_213 dL_law_1473 hq (Nat.le_of_ble_eq_true rfl) (LCi_go (P := fun r h' => LE g uL 1476 [.ref 900, .ref 0, .ref 11, .ref 61, .int i, .retAddr 0, .retAddr 0] (.int r :: []) h' Q) ?_ (fun _ _ q => q))
  refine k_X11_look (gx g (i + 1).toNatClampNeg) v1 hJ1 (fun r2 h2 hJ2 s2 => ?_)
  refine l_pop dL_law_1476 rfl ?_
  refine l_goto 1583 dL_law_1477 (by decide) ?_
  exact K h2 hJ2 (RR_s hJ1 s2 (RR_s hJ s1 he))
set_option maxRecDepth 100000 in
set_option maxHeartbeats 4000000 in
theorem lc_46 {g : gT} {h : mh_T} {Q : Nat × Nat} (i : Int32) (k : Nat) (ei : i.toInt = (k : Int)) (hk : k + 7 ≤ gN g) (hN : gN g ≤ 3584) (hJ : JJ h) (he : RR h) (hq : Q.1 ≤ 601024 ∧ Q.2 ≤ 7293034) (K : ∀ h', JJ h' → RR h' → LE g uL 1583 [.ref 900, .ref 0, .ref 11, .ref 61, .int i, .retAddr 0, .retAddr 0] [] h' Q) : LE g uL 1480 [.ref 900, .ref 0, .ref 11, .ref 61, .int i, .retAddr 0, .retAddr 0] [] h Q := by
  have hin1 : vp_in (i + 1) (gN g) := l_in ei (c := 1) (d := 1) (by decide) (by omega) (by omega)
  have hin2 : vp_in (i + 2) (gN g) := l_in ei (c := 2) (d := 2) (by decide) (by omega) (by omega)
  refine l_aload_n dL_law_1480 rfl ?_
  refine l_aload_n dL_law_1481 rfl ?_
  refine l_iload dL_law_1482 rfl ?_
  refine l_iconst (v := 1) dL_law_1484 (by decide) ?_
  refine l_iadd dL_law_1485 ?_
  refine l_sld dL_law_1486 hin1 ?_
  refine l_aload_n dL_law_1487 rfl ?_
  refine l_iload dL_law_1488 rfl ?_
  refine l_iconst (v := 2) dL_law_1490 (by decide) ?_
  refine l_iadd dL_law_1491 ?_
  refine l_sld dL_law_1492 hin2 ?_
  refine cl_L_214 dL_law_1493 hq (Nat.le_of_ble_eq_true rfl) (LCi_go (P := fun r h' => LE g uL 1496 [.ref 900, .ref 0, .ref 11, .ref 61, .int i, .retAddr 0, .retAddr 0] (.int r :: []) h' Q) ?_ (fun _ _ q => q))
  refine k_X10_coins (gx g (i + 1).toNatClampNeg) (gx g (i + 2).toNatClampNeg) hJ (fun r1 h1 hJ1 s1 => ?_)
  refine l_pop dL_law_1496 rfl ?_
  refine l_aload_n dL_law_1497 rfl ?_
  refine l_aload_n dL_law_1498 rfl ?_
  refine l_iload dL_law_1499 rfl ?_
  refine l_iconst (v := 1) dL_law_1501 (by decide) ?_
  refine l_iadd dL_law_1502 ?_
  refine l_sld dL_law_1503 hin1 ?_
  refine l_aload_n dL_law_1504 rfl ?_
  refine l_iload dL_law_1505 rfl ?_
  refine l_iconst (v := 2) dL_law_1507 (by decide) ?_
  refine l_iadd dL_law_1508 ?_
  refine l_sld dL_law_1509 hin2 ?_
  refine cl_L_217 dL_law_1510 hq (Nat.le_of_ble_eq_true rfl) (LCi_go (P := fun r h' => LE g uL 1513 [.ref 900, .ref 0, .ref 11, .ref 61, .int i, .retAddr 0, .retAddr 0] (.int r :: []) h' Q) ?_ (fun _ _ q => q))
  refine k_X11_coins (gx g (i + 1).toNatClampNeg) (gx g (i + 2).toNatClampNeg) hJ1 (fun r2 h2 hJ2 s2 => ?_)
  refine l_pop dL_law_1513 rfl ?_
  refine l_goto 1583 dL_law_1514 (by decide) ?_
  exact K h2 hJ2 (RR_s hJ1 s2 (RR_s hJ s1 he))
set_option maxRecDepth 100000 in
set_option maxHeartbeats 4000000 in
theorem lc_48 {g : gT} {h : mh_T} {Q : Nat × Nat} (i : Int32) (k : Nat) (ei : i.toInt = (k : Int)) (hk : k + 7 ≤ gN g) (hN : gN g ≤ 3584) (hJ : JJ h) (he : RR h) (hq : Q.1 ≤ 601024 ∧ Q.2 ≤ 7293034) (K : ∀ h', JJ h' → RR h' → LE g uL 1583 [.ref 900, .ref 0, .ref 11, .ref 61, .int i, .retAddr 0, .retAddr 0] [] h' Q) : LE g uL 1545 [.ref 900, .ref 0, .ref 11, .ref 61, .int i, .retAddr 0, .retAddr 0] [] h Q := by
  have hin1 : vp_in (i + 1) (gN g) := l_in ei (c := 1) (d := 1) (by decide) (by omega) (by omega)
  refine l_aload_n dL_law_1545 rfl ?_
  refine l_aload_n dL_law_1546 rfl ?_
  refine l_iload dL_law_1547 rfl ?_
  refine l_iconst (v := 1) dL_law_1549 (by decide) ?_
  refine l_iadd dL_law_1550 ?_
  refine l_sld dL_law_1551 hin1 ?_
  refine cl_L_224 dL_law_1552 hq (Nat.le_of_ble_eq_true rfl) (LCi_go (P := fun r h' => LE g uL 1555 [.ref 900, .ref 0, .ref 11, .ref 61, .int i, .retAddr 0, .retAddr 0] (.int r :: []) h' Q) ?_ (fun _ _ q => q))
  refine k_X10_size (gx g (i + 1).toNatClampNeg) hJ (fun r1 h1 hJ1 s1 => ?_)
  refine l_pop dL_law_1555 rfl ?_
  refine l_aload_n dL_law_1556 rfl ?_
  refine l_aload_n dL_law_1557 rfl ?_
  refine l_iload dL_law_1558 rfl ?_
  refine l_iconst (v := 1) dL_law_1560 (by decide) ?_
  refine l_iadd dL_law_1561 ?_
  refine l_sld dL_law_1562 hin1 ?_
  refine cl_L_227 dL_law_1563 hq (Nat.le_of_ble_eq_true rfl) (LCi_go (P := fun r h' => LE g uL 1566 [.ref 900, .ref 0, .ref 11, .ref 61, .int i, .retAddr 0, .retAddr 0] (.int r :: []) h' Q) ?_ (fun _ _ q => q))
  refine k_X11_size (gx g (i + 1).toNatClampNeg) hJ1 (fun r2 h2 hJ2 s2 => ?_)
  refine l_pop dL_law_1566 rfl ?_
  refine l_goto 1583 dL_law_1567 (by decide) ?_
  exact K h2 hJ2 (RR_s hJ1 s2 (RR_s hJ s1 he))
set_option maxRecDepth 100000 in
set_option maxHeartbeats 4000000 in
theorem lc_49 {g : gT} {h : mh_T} {Q : Nat × Nat} (i : Int32) (k : Nat) (ei : i.toInt = (k : Int)) (hk : k + 7 ≤ gN g) (hN : gN g ≤ 3584) (hJ : JJ h) (he : RR h) (hq : Q.1 ≤ 601024 ∧ Q.2 ≤ 7293034) (K : ∀ h', JJ h' → RR h' → LE g uL 1583 [.ref 900, .ref 0, .ref 11, .ref 61, .int i, .retAddr 0, .retAddr 0] [] h' Q) : LE g uL 1570 [.ref 900, .ref 0, .ref 11, .ref 61, .int i, .retAddr 0, .retAddr 0] [] h Q := by
  refine l_aload_n dL_law_1570 rfl ?_
  refine cl_L_228 dL_law_1571 hq (Nat.le_of_ble_eq_true rfl) (LCi_go (P := fun r h' => LE g uL 1574 [.ref 900, .ref 0, .ref 11, .ref 61, .int i, .retAddr 0, .retAddr 0] (.int r :: []) h' Q) ?_ (fun _ _ q => q))
  refine k_X10_trouble  hJ (fun r1 h1 hJ1 s1 => ?_)
  refine l_pop dL_law_1574 rfl ?_
  refine l_aload_n dL_law_1575 rfl ?_
  refine cl_L_231 dL_law_1576 hq (Nat.le_of_ble_eq_true rfl) (LCi_go (P := fun r h' => LE g uL 1579 [.ref 900, .ref 0, .ref 11, .ref 61, .int i, .retAddr 0, .retAddr 0] (.int r :: []) h' Q) ?_ (fun _ _ q => q))
  refine k_X11_trouble  hJ1 (fun r2 h2 hJ2 s2 => ?_)
  refine l_pop dL_law_1579 rfl ?_
  refine l_goto 1583 dL_law_1580 (by decide) ?_
  exact K h2 hJ2 (RR_s hJ1 s2 (RR_s hJ s1 he))
set_option maxRecDepth 20000 in
theorem tn_0 : Cond.instanceMethod yX10_led ∈ lw_tbl := tk_6 (j := 15) rfl
set_option maxRecDepth 20000 in
theorem tn_1 : Cond.selects RX10 yX10_led yX10_led ∈ lw_tbl := tk_6 (j := 16) rfl
set_option maxRecDepth 20000 in
theorem tn_2 : Cond.classLink RL 13 "java/util/NoSuchElementException" ∈ lw_tbl := tk_6 (j := 13) rfl
set_option maxRecDepth 20000 in
theorem tn_3 : Cond.codeWith yL_led cL_led 4 (some .int) [(0, 9, 12, 13)] ∈ lw_tbl := tk_6 (j := 12) rfl
set_option maxRecDepth 20000 in
theorem tn_4 : Cond.methodLink RL 218 yL_led ∈ lw_tbl := tk_6 (j := 10) rfl
set_option maxRecDepth 20000 in
theorem tn_5 : Cond.static yL_led ∈ lw_tbl := tk_6 (j := 11) rfl
set_option maxRecDepth 20000 in
theorem tn_6 : Cond.initialized RL ∈ lw_tbl := tk_1 (j := 0) rfl
/-! the law's led; its case; its loop -/
theorem k_led {g : gT} {h : mh_T} (hG : GI h) (hl0 : (gl g).stackTraces = false) (a1 : Int32) : vx_Met (gl g) yX10_led (mWs yX10_led uX10_led) rmX (fun v U => mPc g [.ref 0, .int a1] h v U ∧ YL g U) (mQ g (qI (fun _ h' => h' = h))) (XCl g h) 1 6 (gA g) := by
  refine vx_ofW (cc := cX10_led) (maxL := 3) (ret := some .int) (by decide) rfl ?_
  intro p e s m args below meth c s₁ B hml hnt hv
  obtain ⟨⟨rfl, hK, hP, hg, hX⟩, hY⟩ := hv
  have hts := atoms_spec (ws := mWs yX10_led uX10_led) B.pre
  have hown : s.vm.findClass RX10 = some m.cls := findClass_of_methodNamed B.named
  have hl := lv_entry (([.ref 0, .int a1] : List Value).map (tv g)) (n := 3) (by rw [lg_sl_len]; exact Nat.le_of_ble_eq_true rfl)
  rw [lg_entry_eq]
  generalize (lg_sl (([.ref 0, .int a1] : List Value).map (tv g)) ++ List.replicate (3 - (lg_sl (([.ref 0, .int a1] : List Value).map (tv g))).length) Slot.unset).toArray = ls at hl ⊢
  refine t_led a1 hG p e rmX s m _ below meth c s.heap [] ls ⟨rfl, hl0, hY, hnt⟩ ⟨B.exec, B.bytes, hml, B.returns, B.notSynchronized, hown, fun w h1 h2 => hts w (List.mem_cons_of_mem _ (List.mem_filter.mpr ⟨h1, h2⟩)), hK, hP, hg, va_S.rf, ⟨Nat.le_of_ble_eq_true rfl, Nat.le_of_ble_eq_true rfl⟩, ⟨_, hl, ?_⟩, hX⟩
  intro i v hi hv
  match i, hi with
  | 0, hi => cases hi; exact List.mem_cons_self
  | 1, hi => cases hi; exact List.mem_cons_of_mem _ List.mem_cons_self
  | 2, hi => cases hi; exact absurd rfl hv
  | i + 3, hi => cases hi
def PL (h : mh_T) : Int32 → mh_T → Prop := fun _ h' => ∃ v : Int64, h' = h ∨ h' = wL h 61 0 v
def QY (g : gT) (h : mh_T) : tQ := ((1, 6), (fun R s c => R = rmY ∧ (gl g).stackTraces = false ∧ YL g s ∧ c.exceptionTable.toList = [⟨0, 9, 12, 13⟩]), fun below args s => MQ below (mQ g (qI (PL h))) args s 1 6 (gA g))
theorem t_lret {g : gT} {h h' : mh_T} {lv : List Value} {pc : Nat} {r : Int32} (hd : decode cL_led pc = .ok (.ireturn, 1)) (hp : PL h r h') : TE g uL_led pc lv [.int r] h' (QY g h) := by
  intro p e R s m args below meth c H locs ls hR X
  exact W.zret (ty := .int) X.1 X.2.1 X.2.2.2.1 rfl (fun t ht _ => ⟨some (.int r), h', rfl, ⟨r, rfl, hp⟩, by rw [ht]; exact X.2.2.2.2.2.2.2.2.1, X.2.2.2.2.2.2.2.2.2.2.1.F ht⟩) X.2.2.2.2.2.2.2.2.2.2.1.2.2 hd X.2.2.2.2.1
theorem mPY_blind (g : gT) (As : List Value) (h : mh_T) : FrameBlind (fun v U => mPc g As h v U ∧ YL g U) := by
  intro a U f mk hp
  exact ⟨mPc_blind g As h a U f mk hp.1, YL_same (U := U) rfl rfl hp.2⟩
set_option maxHeartbeats 4000000 in
set_option maxRecDepth 100000 in
theorem t_Lled {g : gT} {h : mh_T} (a1 : Int32) (hG : GI h) : ∀ (p : Program) (e : Env) (R : Room) (s : State) (m : MethodId) (args : Array Value) (below : List Frame) (meth : Method) (c : Code) (H : Heap) (locs : List Loc) (ls : Array Slot), (QY g h).2.1 R s c → MX g uL_led p R s m args meth c H locs ls [.ref 0, .int a1, .ref 61, .retAddr 0] h → W p (gl g) e R s m args below meth c H locs 0 0 ((QY g h).2.2 below args s) (F0 m 0 ls []) := by
  intro p e R s m args below meth c H locs ls hR X
  have hX := X
  obtain ⟨x1, x2, x3, x4, x5, x6, x7, x8, x9, x10, x11, x12, ⟨l, h1, h2⟩, x14⟩ := X
  obtain ⟨hRe, hl0, hY, htab⟩ := id hR
  subst hRe
  refine lv_aload_n x1 x2 dL_led_0 rfl (h1.2.2 _ (h2 2 (.ref 61) rfl (by intro e; cases e))) ?_
  refine lv_iconst (v := 0) x1 x2 dL_led_1 (by decide) ?_
  refine lv_aload_n x1 x2 dL_led_2 rfl (h1.2.2 _ (h2 0 (.ref 0) rfl (by intro e; cases e))) ?_
  refine lv_iload_n x1 x2 dL_led_3 rfl (h1.2.2 _ (h2 1 (.int a1) rfl (by intro e; cases e))) ?_
  have hr := vx_runV (p := p) (R := rmY) (H := H) (e := e) (below := below) (meth := meth) (locs := locs) (cells := 0) (slots := 0) (As := [.int a1]) (b := gad g 0) (C := RX10) (n := 1) (rest := [.int 0, .ref (gad g 61)]) (g := F0 m 4 ls [.int a1, .ref (gad g 0), .int 0, .ref (gad g 61)]) (m_fix hX) (k_led hG hl0 a1) ⟨callB_of 1 (m_ws hX) (m_good lq_L_7.1) rfl rfl rfl (x7 _ lq_L_7.2.2.1 rfl) (x7 _ lq_L_7.2.1 rfl) lq_L_7.2.2.2.1 ⟨Nat.le_of_ble_eq_true rfl, Nat.le_of_ble_eq_true rfl⟩, x7 _ tn_0 rfl, x7 _ tn_1 rfl⟩ ⟨mPY_blind g _ h, m_recv hX (k := 0) (ci := 10) (q := (RX10, TX10, 14)) rfl rfl (by decide) (by decide), fun U hU hW => ⟨m_pre hX [.ref 0, .int a1] U hU hW, YL_go x11 hU hW hY⟩⟩ rfl rfl h1.1 rfl (lv_room (Nat.le_of_ble_eq_true rfl)) dL_led_4 ⟨Nat.le_of_ble_eq_true rfl, Nat.le_of_ble_eq_true rfl⟩
  intro T hT XT
  rcases hr T hT XT with ⟨v, st₀, t, T', L, h0, X', hL, e1, e2, ⟨v', h', ev, hq, hP, hF⟩, go⟩ | ⟨q9, st₀, t, T', L, E, ce, h0, X', hL, e1, e2, ⟨hE, hP, hF⟩, hce, hcv, hcl, st⟩
  · cases ev
    obtain ⟨r, hv, hh⟩ := hq
    subst hv
    subst hh
    have K : TE g uL_led 7 [.ref 0, .int a1, .ref 61, .retAddr 0] [.int r, .int 0, .ref 61] h' (QY g h') := by
      refine te_i2l dL_led_7 ?_
      refine te_lastore dL_led_8 rfl (by decide) (by unfold vp_in; decide) ?_
      refine te_goto 15 dL_led_9 (by decide) ?_
      refine te_iconst (v := 0) dL_led_15 (by decide) ?_
      exact t_lret dL_led_16 ⟨_, Or.inr rfl⟩
    obtain ⟨tt, b1, b2⟩ := K p e rmY s m args below meth c T'.heap (locs ++ L) ls hR ⟨x1, x2, x3, x4, x5, x6, x7, x8, by rw [e1]; exact hP, x10, by rw [e1]; exact va_S_call x11 h0 hF hL, x12, ⟨l, h1, h2⟩, x14⟩ T' rfl X'
    exact ⟨tt, go tt b1, b2⟩
  · subst hE
    have hS' : va_S (gA g) s.heap T'.heap (locs ++ L) := by rw [e1]; exact va_S_call x11 h0 hF hL
    have K : vx_W p (gl g) e rmY s m args below meth c T'.heap (locs ++ L) 1 6 ((QY g h).2.2 below args s) (F0 m 4 ls [.int 0, .ref (gad g 61)]) q9 := by
      refine vx_catch x6 [] ⟨0, 9, 12, 13⟩ [] htab (fun z h => nomatch h) (by decide) (by decide) (x7 _ tn_2 rfl) (va_Nw.use rfl hY.2.1) (by rw [e1]; exact hce) hcv hcl ?_
      refine lv_astore_n (lv' := _) x1 x2 dL_led_12 rfl h1 (by decide) rfl (fun ls hl => ?_)
      refine lv_iconst (v := 1) x1 x2 dL_led_13 (by decide) ?_
      exact W.zret (ty := .int) x1 x2 x4 rfl (fun t ht _ => ⟨some (.int 1), h, rfl, ⟨1, rfl, ⟨0, Or.inl rfl⟩⟩, by rw [ht, e1]; exact hP, hS'.F ht⟩) hS'.2.2 dL_led_14 x5
    obtain ⟨t2, b1, b2⟩ := K T' rfl X'
    exact ⟨t2, st.trans b1, b2⟩
def wsQ : List Cond := .codeWith yL_led cL_led 4 (some .int) [(0, 9, 12, 13)] :: lw_tbl.filter goodWord
theorem k_Lled {g : gT} {h : mh_T} (hG : GI h) (hl0 : (gl g).stackTraces = false) (a1 : Int32) : Met (gl g) yL_led wsQ rmY (fun v U => mPc g [.ref 0, .int a1, .ref 61] h v U ∧ YL g U) (mQ g (qI (PL h))) 1 6 (gA g) := by
  refine va_MetW (cc := cL_led) (maxL := 4) (ret := some .int) (by decide) rfl ?_
  intro p e s m args below meth c s₁ B hml hv
  obtain ⟨⟨rfl, hK, hP, hg, hX⟩, hY⟩ := hv
  have hts := atoms_spec (ws := wsQ) B.pre
  have hown : s.vm.findClass RL = some m.cls := findClass_of_methodNamed B.named
  have htab := vx_table (x := yL_led) B (hts _ List.mem_cons_self)
  have hl := lv_entry (([.ref 0, .int a1, .ref 61] : List Value).map (tv g)) (n := 4) (by rw [lg_sl_len]; exact Nat.le_of_ble_eq_true rfl)
  rw [lg_entry_eq]
  generalize (lg_sl (([.ref 0, .int a1, .ref 61] : List Value).map (tv g)) ++ List.replicate (4 - (lg_sl (([.ref 0, .int a1, .ref 61] : List Value).map (tv g))).length) Slot.unset).toArray = ls at hl ⊢
  refine t_Lled a1 hG p e rmY s m _ below meth c s.heap [] ls ⟨rfl, hl0, hY, htab⟩ ⟨B.exec, B.bytes, hml, B.returns, B.notSynchronized, hown, fun w h1 h2 => hts w (List.mem_cons_of_mem _ (List.mem_filter.mpr ⟨h1, h2⟩)), hK, hP, hg, va_S.rf, ⟨Nat.le_of_ble_eq_true rfl, Nat.le_of_ble_eq_true rfl⟩, ⟨_, hl, ?_⟩, hX⟩
  intro i v hi hv
  match i, hi with
  | 0, hi => cases hi; exact List.mem_cons_self
  | 1, hi => cases hi; exact List.mem_cons_of_mem _ List.mem_cons_self
  | 2, hi => cases hi; exact List.mem_cons_of_mem _ (List.mem_cons_of_mem _ List.mem_cons_self)
  | 3, hi => cases hi; exact absurd rfl hv
  | i + 4, hi => cases hi
theorem wsQ_good : GoodIn (lw_tbl.filter goodWord) wsQ := by
  intro w hw
  rcases List.mem_cons.mp hw with h | h
  · subst h
    refine ⟨List.mem_filter.mpr ⟨tn_3, ?_⟩, good_of_word ?_⟩ <;> first | rfl | simp [goodWord, Cond.onTables, Cond.keeps, Cond.steady]
  · exact ⟨h, good_of_word (List.mem_filter.mp h).2⟩
theorem wsQ_all : GoodIn (lw_tbl.filter goodWord) (va_wsS RL 218 yL_led wsQ) := by
  refine goodIn_app ?_ wsQ_good
  intro w hw
  have : w = Cond.methodLink RL 218 yL_led ∨ w = Cond.static yL_led ∨ w = Cond.initialized yL_led.cls := by
    simpa using hw
  rcases this with e | e | e <;> subst e
  · exact ⟨List.mem_filter.mpr ⟨tn_4, rfl⟩, good_of_word rfl⟩
  · exact ⟨List.mem_filter.mpr ⟨tn_5, rfl⟩, good_of_word rfl⟩
  · exact ⟨List.mem_filter.mpr ⟨show Cond.initialized RL ∈ lw_tbl from tn_6, rfl⟩, good_of_word rfl⟩
set_option maxHeartbeats 4000000 in
set_option maxRecDepth 100000 in
theorem l_ledcall {g : gT} {h : mh_T} {Q : Nat × Nat} {lv : List Value} (a1 : Int32) (hG : GI h) (hq : Q.1 + 1 ≤ 601024 ∧ Q.2 + 6 ≤ 7293034) (kk : ∀ (r : Int32) (h' : mh_T), PL h r h' → LE g uL 1528 lv [.int r] h' (Q.1 + 1, Q.2 + 6)) : LE g uL 1525 lv [.ref 61, .int a1, .ref 0] h Q := by
  intro p e R s m args below meth c H locs ls hR X
  have hX := X
  obtain ⟨x1, x2, x3, x4, x5, x6, x7, x8, x9, x10, x11, x12, ⟨l, h1, h2⟩, x14⟩ := X
  obtain ⟨hRe, hl0, y1, y2, y3, y4, y5, y6, y7, y8⟩ := id hR
  subst hRe
  have hY : YL g s := ⟨y1, y2, y3, y4, y5, y6, y7⟩
  have hr := vx_runSW (p := p) (R := room_1) (H := H) (e := e) (below := below) (meth := meth) (locs := locs) (cells := Q.1) (slots := Q.2) (As := [.ref (gad g 0), .int a1, .ref (gad g 61)]) (n := 3) (rest := []) (g := F0 m 1525 ls [.ref (gad g 61), .int a1, .ref (gad g 0)]) (m_fix hX) (k_Lled hG hl0 a1) (vx_cwSW 3 (m_ws hX) wsQ_all rfl rfl rfl (by decide +kernel) ⟨Nat.le_of_ble_eq_true rfl, Nat.le_of_ble_eq_true rfl⟩) ⟨mPY_blind g _ h, fun U hU hW => ⟨m_pre hX [.ref 0, .int a1, .ref 61] U hU hW, YL_go x11 hU hW hY⟩⟩ rfl rfl h1.1 rfl (lv_room (Nat.le_of_ble_eq_true rfl)) dL_law_1525 ⟨hq.1, hq.2⟩
  intro T hT XT
  obtain ⟨v, s0, t, T', L, h0, X', hL, e1, e2, ⟨v', h', ev, hq', hP, hF⟩, go⟩ := hr T hT XT
  cases ev
  obtain ⟨r, hv, hh⟩ := hq'
  subst hv
  obtain ⟨tt, b1, b2⟩ := kk r h' hh p e room_1 s m args below meth c T'.heap (locs ++ L) ls hR ⟨x1, x2, x3, x4, x5, x6, x7, x8, by rw [e1]; exact hP, x10, by rw [e1]; exact va_S_call x11 h0 hF hL, x12, ⟨l, h1, h2⟩, x14⟩ T' rfl X'
  exact ⟨tt, go tt b1, b2⟩
theorem PL_J {h h' : mh_T} {r : Int32} (hp : PL h r h') (hJ : JJ h) : JJ h' ∧ SL h h' := by
  obtain ⟨v, e | e⟩ := hp <;> subst e
  · exact ⟨hJ, SL_rf _⟩
  · exact ⟨⟨GI_wL hJ.1, hJ.2⟩, SL_wL⟩
set_option maxRecDepth 100000 in
set_option maxHeartbeats 4000000 in
theorem lc_47 {g : gT} {h : mh_T} {Q : Nat × Nat} (i : Int32) (k : Nat) (ei : i.toInt = (k : Int)) (hk : k + 7 ≤ gN g) (hN : gN g ≤ 3584) (hJ : JJ h) (he : RR h) (hq : Q.1 + 1 ≤ 601024 ∧ Q.2 + 6 ≤ 7293034) (K : ∀ h', JJ h' → RR h' → LE g uL 1583 [.ref 900, .ref 0, .ref 11, .ref 61, .int i, .retAddr 0, .retAddr 0] [] h' (Q.1 + 1, Q.2 + 6)) : LE g uL 1517 [.ref 900, .ref 0, .ref 11, .ref 61, .int i, .retAddr 0, .retAddr 0] [] h Q := by
  have hin1 : vp_in (i + 1) (gN g) := l_in ei (c := 1) (d := 1) (by decide) (by omega) (by omega)
  refine l_aload_n dL_law_1517 rfl ?_
  refine l_aload_n dL_law_1518 rfl ?_
  refine l_iload dL_law_1519 rfl ?_
  refine l_iconst (v := 1) dL_law_1521 (by decide) ?_
  refine l_iadd dL_law_1522 ?_
  refine l_sld dL_law_1523 hin1 ?_
  refine l_aload_n dL_law_1524 rfl ?_
  refine l_ledcall _ hJ.1 hq (fun r1 h1 hp1 => ?_)
  obtain ⟨hJ1, s1⟩ := PL_J hp1 hJ
  refine l_istore dL_law_1528 (by decide) rfl rfl ?_
  refine l_aload_n dL_law_1530 rfl ?_
  refine l_aload_n dL_law_1531 rfl ?_
  refine l_iload dL_law_1532 rfl ?_
  refine l_iconst (v := 1) dL_law_1534 (by decide) ?_
  refine l_iadd dL_law_1535 ?_
  refine l_sld dL_law_1536 hin1 ?_
  refine cl_L_223 dL_law_1537 (by exact ⟨by omega, by omega⟩) (Nat.le_of_ble_eq_true rfl) (LCi_go (P := fun r h' => LE g uL 1540 [.ref 900, .ref 0, .ref 11, .ref 61, .int i, .int r1, .retAddr 0] [.int r] h' (Q.1 + 1, Q.2 + 6)) ?_ (fun _ _ q => q))
  refine k_X11_led _ hJ1 (fun r2 h2 hJ2 s2 => ?_)
  refine l_istore dL_law_1540 (by decide) rfl rfl ?_
  refine l_goto 1583 dL_law_1542 (by decide) ?_
  refine l_dropK [5, 6] rfl ?_
  exact K h2 hJ2 (RR_l hJ hJ1 he s1 s2)
theorem sw_x (x : Int32) : (x.toInt < 0 ∨ 49 < x.toInt) ∨ ∃ j : Nat, j < 50 ∧ x.toInt = (j : Int) := by
  by_cases h : x.toInt < 0 ∨ 49 < x.toInt
  · exact Or.inl h
  · exact Or.inr ⟨x.toInt.toNat, by omega, by omega⟩
set_option maxRecDepth 100000 in
set_option maxHeartbeats 8000000 in
theorem law_loop {g : gT} (hN : gN g ≤ 3584) : ∀ (n : Nat) (i : Int32) (k : Nat) (h : mh_T), i.toInt = (k : Int) → k ≤ gN g → gN g - k < n → JJ h → RR h → LE g uL 23 [.ref 900, .ref 0, .ref 11, .ref 61, .int i, .retAddr 0, .retAddr 0] [] h (141 + k, 16331 + 6 * k) := by
  intro n
  induction n with
  | zero => intro i k h _ _ hn; exact absurd hn (Nat.not_lt_zero _)
  | succ n ih =>
    intro i k h ei hkN hn hJ he
    have eL : (Int32.ofNat (gN g)).toInt = (gN g : Int) := nI_toInt (n := gN g) (by omega)
    have eL7 : (Int32.ofNat (gN g) - 7).toInt = (gN g : Int) - 7 := i_sub eL (show (7 : Int32).toInt = 7 from by decide) (by omega)
    refine l_iload dL_law_23 rfl ?_
    refine l_aload_n dL_law_25 rfl ?_
    refine l_slen dL_law_26 ?_
    refine l_bipush (v := 7) dL_law_27 (by decide) ?_
    refine l_isub dL_law_29 ?_
    refine l_icmp_gt 1589 dL_law_30 (by decide) (fun _ => ?_) (fun c => ?_)
    · refine l_iconst (v := 1) dL_law_1589 (by decide) ?_
      exact l_true dL_law_1590 ⟨by show 141 + k ≤ _; omega, by show 16331 + 6 * k ≤ _; omega⟩
    have c : ¬ (Int32.ofNat (gN g) - 7).toInt < i.toInt := fun z => c (i_lt.mpr z)
    have hk : k + 7 ≤ gN g := by omega
    refine l_aload_n dL_law_33 rfl ?_
    refine l_iload dL_law_34 rfl ?_
    refine l_sld dL_law_36 (i_vp ei (by omega)) ?_
    refine l_bipush (v := 63) dL_law_37 (by decide) ?_
    refine l_iand dL_law_39 ?_
    generalize (gx g i.toNatClampNeg &&& 63) = x
    have nx : ∀ (h' : mh_T), JJ h' → RR h' → LE g uL 1583 [.ref 900, .ref 0, .ref 11, .ref 61, .int i, .retAddr 0, .retAddr 0] [] h' (141 + (k + 7), 16331 + 6 * (k + 7)) := by
      intro h' hJ' he'
      have e7 : (i + 7).toInt = ((k + 7 : Nat) : Int) := i_off ei 7 7 (by decide) (by omega)
      refine l_iinc (v := i + 7) dL_law_1583 (by decide) rfl rfl rfl rfl ?_
      refine l_goto 23 dL_law_1586 (by decide) ?_
      exact ih (i + 7) (k + 7) h' e7 hk (by omega) hJ' he'
    have nw : ∀ (h' : mh_T), JJ h' → RR h' → LE g uL 1583 [.ref 900, .ref 0, .ref 11, .ref 61, .int i, .retAddr 0, .retAddr 0] [] h' (141 + k, 16331 + 6 * k) := fun h' a b => l_widen (by show 141 + k ≤ 141 + (k + 7); omega) (by show 16331 + 6 * k ≤ 16331 + 6 * (k + 7); omega) (nx h' a b)
    have hq : (141 + k, 16331 + 6 * k).1 ≤ 601024 ∧ (141 + k, 16331 + 6 * k).2 ≤ 7293034 := ⟨by show 141 + k ≤ _; omega, by show 16331 + 6 * k ≤ _; omega⟩
    rcases sw_x x with ho | ⟨j, hj, ej⟩
    · exact l_tableOut 1583 dL_law_40 ho (by decide) (nw h hJ he)
    · rcases (show j = 0 ∨ j = 1 ∨ j = 2 ∨ j = 3 ∨ j = 4 ∨ j = 5 ∨ j = 6 ∨ j = 7 ∨ j = 8 ∨ j = 9 ∨ j = 10 ∨ j = 11 ∨ j = 12 ∨ j = 13 ∨ j = 14 ∨ j = 15 ∨ j = 16 ∨ j = 17 ∨ j = 18 ∨ j = 19 ∨ j = 20 ∨ j = 21 ∨ j = 22 ∨ j = 23 ∨ j = 24 ∨ j = 25 ∨ j = 26 ∨ j = 27 ∨ j = 28 ∨ j = 29 ∨ j = 30 ∨ j = 31 ∨ j = 32 ∨ j = 33 ∨ j = 34 ∨ j = 35 ∨ j = 36 ∨ j = 37 ∨ j = 38 ∨ j = 39 ∨ j = 40 ∨ j = 41 ∨ j = 42 ∨ j = 43 ∨ j = 44 ∨ j = 45 ∨ j = 46 ∨ j = 47 ∨ j = 48 ∨ j = 49 by omega) with e | e | e | e | e | e | e | e | e | e | e | e | e | e | e | e | e | e | e | e | e | e | e | e | e | e | e | e | e | e | e | e | e | e | e | e | e | e | e | e | e | e | e | e | e | e | e | e | e | e <;> subst e
      · refine l_tableIn (off := 216) 256 dL_law_40 (by rw [ej]; decide) (by rw [ej]; decide) (by rw [ej]; decide) (by decide) ?_
        exact lc_0 i k ei hk hN hJ he hq nw
      · refine l_tableIn (off := 289) 329 dL_law_40 (by rw [ej]; decide) (by rw [ej]; decide) (by rw [ej]; decide) (by decide) ?_
        exact lc_1 i k ei hk hN hJ he hq nw
      · refine l_tableIn (off := 314) 354 dL_law_40 (by rw [ej]; decide) (by rw [ej]; decide) (by rw [ej]; decide) (by decide) ?_
        exact lc_2 i k ei hk hN hJ he hq nw
      · refine l_tableIn (off := 327) 367 dL_law_40 (by rw [ej]; decide) (by rw [ej]; decide) (by rw [ej]; decide) (by decide) ?_
        exact lc_3 i k ei hk hN hJ he hq nw
      · refine l_tableIn (off := 340) 380 dL_law_40 (by rw [ej]; decide) (by rw [ej]; decide) (by rw [ej]; decide) (by decide) ?_
        exact lc_4 i k ei hk hN hJ he hq nw
      · refine l_tableIn (off := 381) 421 dL_law_40 (by rw [ej]; decide) (by rw [ej]; decide) (by rw [ej]; decide) (by decide) ?_
        exact lc_5 i k ei hk hN hJ he hq nw
      · refine l_tableIn (off := 500) 540 dL_law_40 (by rw [ej]; decide) (by rw [ej]; decide) (by rw [ej]; decide) (by decide) ?_
        exact lc_6 i k ei hk hN hJ he hq nw
      · refine l_tableIn (off := 537) 577 dL_law_40 (by rw [ej]; decide) (by rw [ej]; decide) (by rw [ej]; decide) (by decide) ?_
        exact lc_7 i k ei hk hN hJ he hq nw
      · refine l_tableIn (off := 550) 590 dL_law_40 (by rw [ej]; decide) (by rw [ej]; decide) (by rw [ej]; decide) (by decide) ?_
        exact lc_8 i k ei hk hN hJ he hq nw
      · refine l_tableIn (off := 563) 603 dL_law_40 (by rw [ej]; decide) (by rw [ej]; decide) (by rw [ej]; decide) (by decide) ?_
        exact lc_9 i k ei hk hN hJ he hq nw
      · refine l_tableIn (off := 588) 628 dL_law_40 (by rw [ej]; decide) (by rw [ej]; decide) (by rw [ej]; decide) (by decide) ?_
        exact lc_10 i k ei hk hN hJ he hq nw
      · refine l_tableIn (off := 601) 641 dL_law_40 (by rw [ej]; decide) (by rw [ej]; decide) (by rw [ej]; decide) (by decide) ?_
        exact lc_11 i k ei hk hN hJ he hq nw
      · refine l_tableIn (off := 626) 666 dL_law_40 (by rw [ej]; decide) (by rw [ej]; decide) (by rw [ej]; decide) (by decide) ?_
        exact lc_12 i k ei hk hN hJ he hq nw
      · refine l_tableIn (off := 639) 679 dL_law_40 (by rw [ej]; decide) (by rw [ej]; decide) (by rw [ej]; decide) (by decide) ?_
        exact lc_13 i k ei hk hN hJ he hq nw
      · refine l_tableIn (off := 664) 704 dL_law_40 (by rw [ej]; decide) (by rw [ej]; decide) (by rw [ej]; decide) (by decide) ?_
        exact lc_14 i k ei hk hN hJ he hq nw
      · refine l_tableIn (off := 689) 729 dL_law_40 (by rw [ej]; decide) (by rw [ej]; decide) (by rw [ej]; decide) (by decide) ?_
        exact lc_15 i k ei hk hN hJ he hq nw
      · refine l_tableIn (off := 702) 742 dL_law_40 (by rw [ej]; decide) (by rw [ej]; decide) (by rw [ej]; decide) (by decide) ?_
        exact lc_16 i k ei hk hN hJ he hq nw
      · refine l_tableIn (off := 751) 791 dL_law_40 (by rw [ej]; decide) (by rw [ej]; decide) (by rw [ej]; decide) (by decide) ?_
        exact lc_17 i k ei hk hN hJ he hq nw
      · refine l_tableIn (off := 764) 804 dL_law_40 (by rw [ej]; decide) (by rw [ej]; decide) (by rw [ej]; decide) (by decide) ?_
        exact lc_18 i k ei hk hN hJ he hq nw
      · refine l_tableIn (off := 777) 817 dL_law_40 (by rw [ej]; decide) (by rw [ej]; decide) (by rw [ej]; decide) (by decide) ?_
        exact lc_19 i k ei hk hN hJ he hq nw
      · refine l_tableIn (off := 790) 830 dL_law_40 (by rw [ej]; decide) (by rw [ej]; decide) (by rw [ej]; decide) (by decide) ?_
        exact lc_20 i k ei hk hN hJ he hq nw
      · refine l_tableIn (off := 803) 843 dL_law_40 (by rw [ej]; decide) (by rw [ej]; decide) (by rw [ej]; decide) (by decide) ?_
        exact lc_21 i k ei hk hN hJ he hq nw
      · refine l_tableIn (off := 844) 884 dL_law_40 (by rw [ej]; decide) (by rw [ej]; decide) (by rw [ej]; decide) (by decide) ?_
        exact lc_22 i k ei hk hN hJ he hq nw
      · refine l_tableIn (off := 857) 897 dL_law_40 (by rw [ej]; decide) (by rw [ej]; decide) (by rw [ej]; decide) (by decide) ?_
        exact lc_23 i k ei hk hN hJ he hq nw
      · refine l_tableIn (off := 882) 922 dL_law_40 (by rw [ej]; decide) (by rw [ej]; decide) (by rw [ej]; decide) (by decide) ?_
        exact lc_24 i k ei hk hN hJ he hq nw
      · refine l_tableIn (off := 895) 935 dL_law_40 (by rw [ej]; decide) (by rw [ej]; decide) (by rw [ej]; decide) (by decide) ?_
        exact lc_25 i k ei hk hN hJ he hq nw
      · refine l_tableIn (off := 920) 960 dL_law_40 (by rw [ej]; decide) (by rw [ej]; decide) (by rw [ej]; decide) (by decide) ?_
        exact lc_26 i k ei hk hN hJ he hq nw
      · refine l_tableIn (off := 933) 973 dL_law_40 (by rw [ej]; decide) (by rw [ej]; decide) (by rw [ej]; decide) (by decide) ?_
        exact lc_27 i k ei hk hN hJ he hq nw
      · refine l_tableIn (off := 970) 1010 dL_law_40 (by rw [ej]; decide) (by rw [ej]; decide) (by rw [ej]; decide) (by decide) ?_
        exact lc_28 i k ei hk hN hJ he hq nw
      · refine l_tableIn (off := 983) 1023 dL_law_40 (by rw [ej]; decide) (by rw [ej]; decide) (by rw [ej]; decide) (by decide) ?_
        exact lc_29 i k ei hk hN hJ he hq nw
      · refine l_tableIn (off := 996) 1036 dL_law_40 (by rw [ej]; decide) (by rw [ej]; decide) (by rw [ej]; decide) (by decide) ?_
        exact lc_30 i k ei hk hN hJ he hq nw
      · refine l_tableIn (off := 1009) 1049 dL_law_40 (by rw [ej]; decide) (by rw [ej]; decide) (by rw [ej]; decide) (by decide) ?_
        exact lc_31 i k ei hk hN hJ he hq nw
      · refine l_tableIn (off := 1022) 1062 dL_law_40 (by rw [ej]; decide) (by rw [ej]; decide) (by rw [ej]; decide) (by decide) ?_
        exact lc_32 i k ei hk hN hJ he hq nw
      · refine l_tableIn (off := 1035) 1075 dL_law_40 (by rw [ej]; decide) (by rw [ej]; decide) (by rw [ej]; decide) (by decide) ?_
        exact lc_33 i k ei hk hN hJ he hq nw
      · refine l_tableIn (off := 1048) 1088 dL_law_40 (by rw [ej]; decide) (by rw [ej]; decide) (by rw [ej]; decide) (by decide) ?_
        exact lc_34 i k ei hk hN hJ he hq nw
      · refine l_tableIn (off := 1113) 1153 dL_law_40 (by rw [ej]; decide) (by rw [ej]; decide) (by rw [ej]; decide) (by decide) ?_
        exact lc_35 i k ei hk hN hJ he hq nw
      · refine l_tableIn (off := 1138) 1178 dL_law_40 (by rw [ej]; decide) (by rw [ej]; decide) (by rw [ej]; decide) (by decide) ?_
        exact lc_36 i k ei hk hN hJ he hq nw
      · refine l_tableIn (off := 1163) 1203 dL_law_40 (by rw [ej]; decide) (by rw [ej]; decide) (by rw [ej]; decide) (by decide) ?_
        exact lc_37 i k ei hk hN hJ he hq nw
      · refine l_tableIn (off := 1188) 1228 dL_law_40 (by rw [ej]; decide) (by rw [ej]; decide) (by rw [ej]; decide) (by decide) ?_
        exact lc_38 i k ei hk hN hJ he hq nw
      · refine l_tableIn (off := 1249) 1289 dL_law_40 (by rw [ej]; decide) (by rw [ej]; decide) (by rw [ej]; decide) (by decide) ?_
        exact lc_39 i k ei hk hN hJ he hq nw
      · refine l_tableIn (off := 1262) 1302 dL_law_40 (by rw [ej]; decide) (by rw [ej]; decide) (by rw [ej]; decide) (by decide) ?_
        exact lc_40 i k ei hk hN hJ he hq nw
      · refine l_tableIn (off := 1275) 1315 dL_law_40 (by rw [ej]; decide) (by rw [ej]; decide) (by rw [ej]; decide) (by decide) ?_
        exact lc_41 i k ei hk hN hJ he hq nw
      · refine l_tableIn (off := 1288) 1328 dL_law_40 (by rw [ej]; decide) (by rw [ej]; decide) (by rw [ej]; decide) (by decide) ?_
        exact lc_42 i k ei hk hN hJ he hq nw
      · refine l_tableIn (off := 1313) 1353 dL_law_40 (by rw [ej]; decide) (by rw [ej]; decide) (by rw [ej]; decide) (by decide) ?_
        exact lc_43 i k ei hk hN hJ he hq nw
      · refine l_tableIn (off := 1350) 1390 dL_law_40 (by rw [ej]; decide) (by rw [ej]; decide) (by rw [ej]; decide) (by decide) ?_
        exact lc_44 i k ei hk hN hJ he hq nw
      · refine l_tableIn (off := 1387) 1427 dL_law_40 (by rw [ej]; decide) (by rw [ej]; decide) (by rw [ej]; decide) (by decide) ?_
        exact lc_45 i k ei hk hN hJ he hq nw
      · refine l_tableIn (off := 1440) 1480 dL_law_40 (by rw [ej]; decide) (by rw [ej]; decide) (by rw [ej]; decide) (by decide) ?_
        exact lc_46 i k ei hk hN hJ he hq nw
      · refine l_tableIn (off := 1477) 1517 dL_law_40 (by rw [ej]; decide) (by rw [ej]; decide) (by rw [ej]; decide) (by decide) ?_
        exact lc_47 i k ei hk hN hJ he ⟨by show 141 + k + 1 ≤ _; omega, by show 16331 + 6 * k + 6 ≤ _; omega⟩ (fun h1 a b => l_widen (by show 141 + k + 1 ≤ 141 + (k + 7); omega) (by show 16331 + 6 * k + 6 ≤ 16331 + 6 * (k + 7); omega) (nx h1 a b))
      · refine l_tableIn (off := 1505) 1545 dL_law_40 (by rw [ej]; decide) (by rw [ej]; decide) (by rw [ej]; decide) (by decide) ?_
        exact lc_48 i k ei hk hN hJ he hq nw
      · refine l_tableIn (off := 1530) 1570 dL_law_40 (by rw [ej]; decide) (by rw [ej]; decide) (by rw [ej]; decide) (by decide) ?_
        exact lc_49 i k ei hk hN hJ he hq nw
