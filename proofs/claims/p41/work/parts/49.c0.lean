set_option maxRecDepth 100000 in
set_option maxHeartbeats 4000000 in
theorem lc_0 {g : gT} {h : mh_T} {Q : Nat × Nat} (i : Int32) (k : Nat) (ei : i.toInt = (k : Int)) (hk : k + 7 ≤ gN g) (hN : gN g ≤ 3584) (hJ : JJ h) (he : RR h) (hq : Q.1 ≤ 601024 ∧ Q.2 ≤ 7293034) (K : ∀ h', JJ h' → RR h' → LE g uL 1583 [.ref 900, .ref 0, .ref 11, .ref 61, .int i, .retAddr 0, .retAddr 0] [] h' Q) : LE g uL 256 [.ref 900, .ref 0, .ref 11, .ref 61, .int i, .retAddr 0, .retAddr 0] [] h Q := by
  have hin1 : vp_in (i + 1) (gN g) := l_in ei (c := 1) (d := 1) (by decide) (by omega) (by omega)
  have hin2 : vp_in (i + 2) (gN g) := l_in ei (c := 2) (d := 2) (by decide) (by omega) (by omega)
  have hin3 : vp_in (i + 3) (gN g) := l_in ei (c := 3) (d := 3) (by decide) (by omega) (by omega)
  have hin4 : vp_in (i + 4) (gN g) := l_in ei (c := 4) (d := 4) (by decide) (by omega) (by omega)
  have hin5 : vp_in (i + 5) (gN g) := l_in ei (c := 5) (d := 5) (by decide) (by omega) (by omega)
  refine l_aload_n dL_law_256 rfl ?_
  refine l_aload_n dL_law_257 rfl ?_
  refine l_iload dL_law_258 rfl ?_
  refine l_iconst (v := 1) dL_law_260 (by decide) ?_
  refine l_iadd dL_law_261 ?_
  refine l_sld dL_law_262 hin1 ?_
  refine l_aload_n dL_law_263 rfl ?_
  refine l_iload dL_law_264 rfl ?_
  refine l_iconst (v := 2) dL_law_266 (by decide) ?_
  refine l_iadd dL_law_267 ?_
  refine l_sld dL_law_268 hin2 ?_
  refine l_aload_n dL_law_269 rfl ?_
  refine l_iload dL_law_270 rfl ?_
  refine l_iconst (v := 3) dL_law_272 (by decide) ?_
  refine l_iadd dL_law_273 ?_
  refine l_sld dL_law_274 hin3 ?_
  refine l_aload_n dL_law_275 rfl ?_
  refine l_iload dL_law_276 rfl ?_
  refine l_iconst (v := 4) dL_law_278 (by decide) ?_
  refine l_iadd dL_law_279 ?_
  refine l_sld dL_law_280 hin4 ?_
  refine l_aload_n dL_law_281 rfl ?_
  refine l_iload dL_law_282 rfl ?_
  refine l_iconst (v := 5) dL_law_284 (by decide) ?_
  refine l_iadd dL_law_285 ?_
  refine l_sld dL_law_286 hin5 ?_
  refine cl_L_19 dL_law_287 hq (Nat.le_of_ble_eq_true rfl) (LCi_go (P := fun r h' => LE g uL 290 [.ref 900, .ref 0, .ref 11, .ref 61, .int i, .retAddr 0, .retAddr 0] (.int r :: []) h' Q) ?_ (fun _ _ q => q))
  refine k_X10_feed (gx g (i + 1).toNatClampNeg) (gx g (i + 2).toNatClampNeg) (gx g (i + 3).toNatClampNeg) (gx g (i + 4).toNatClampNeg) (gx g (i + 5).toNatClampNeg) hJ (fun r1 h1 hJ1 s1 => ?_)
  refine l_pop dL_law_290 rfl ?_
  refine l_aload_n dL_law_291 rfl ?_
  refine l_aload_n dL_law_292 rfl ?_
  refine l_iload dL_law_293 rfl ?_
  refine l_iconst (v := 1) dL_law_295 (by decide) ?_
  refine l_iadd dL_law_296 ?_
  refine l_sld dL_law_297 hin1 ?_
  refine l_aload_n dL_law_298 rfl ?_
  refine l_iload dL_law_299 rfl ?_
  refine l_iconst (v := 2) dL_law_301 (by decide) ?_
  refine l_iadd dL_law_302 ?_
  refine l_sld dL_law_303 hin2 ?_
  refine l_aload_n dL_law_304 rfl ?_
  refine l_iload dL_law_305 rfl ?_
  refine l_iconst (v := 3) dL_law_307 (by decide) ?_
  refine l_iadd dL_law_308 ?_
  refine l_sld dL_law_309 hin3 ?_
  refine l_aload_n dL_law_310 rfl ?_
  refine l_iload dL_law_311 rfl ?_
  refine l_iconst (v := 4) dL_law_313 (by decide) ?_
  refine l_iadd dL_law_314 ?_
  refine l_sld dL_law_315 hin4 ?_
  refine l_aload_n dL_law_316 rfl ?_
  refine l_iload dL_law_317 rfl ?_
  refine l_iconst (v := 5) dL_law_319 (by decide) ?_
  refine l_iadd dL_law_320 ?_
  refine l_sld dL_law_321 hin5 ?_
  refine cl_L_23 dL_law_322 hq (Nat.le_of_ble_eq_true rfl) (LCi_go (P := fun r h' => LE g uL 325 [.ref 900, .ref 0, .ref 11, .ref 61, .int i, .retAddr 0, .retAddr 0] (.int r :: []) h' Q) ?_ (fun _ _ q => q))
  refine k_X11_feed (gx g (i + 1).toNatClampNeg) (gx g (i + 2).toNatClampNeg) (gx g (i + 3).toNatClampNeg) (gx g (i + 4).toNatClampNeg) (gx g (i + 5).toNatClampNeg) hJ1 (fun r2 h2 hJ2 s2 => ?_)
  refine l_pop dL_law_325 rfl ?_
  refine l_goto 1583 dL_law_326 (by decide) ?_
  exact K h2 hJ2 (feed_RR hJ hJ1 he s1 s2)
set_option maxRecDepth 100000 in
set_option maxHeartbeats 4000000 in
theorem lc_1 {g : gT} {h : mh_T} {Q : Nat × Nat} (i : Int32) (k : Nat) (ei : i.toInt = (k : Int)) (hk : k + 7 ≤ gN g) (hN : gN g ≤ 3584) (hJ : JJ h) (he : RR h) (hq : Q.1 ≤ 601024 ∧ Q.2 ≤ 7293034) (K : ∀ h', JJ h' → RR h' → LE g uL 1583 [.ref 900, .ref 0, .ref 11, .ref 61, .int i, .retAddr 0, .retAddr 0] [] h' Q) : LE g uL 329 [.ref 900, .ref 0, .ref 11, .ref 61, .int i, .retAddr 0, .retAddr 0] [] h Q := by
  have hin1 : vp_in (i + 1) (gN g) := l_in ei (c := 1) (d := 1) (by decide) (by omega) (by omega)
  refine l_aload_n dL_law_329 rfl ?_
  refine l_aload_n dL_law_330 rfl ?_
  refine l_iload dL_law_331 rfl ?_
  refine l_iconst (v := 1) dL_law_333 (by decide) ?_
  refine l_iadd dL_law_334 ?_
  refine l_sld dL_law_335 hin1 ?_
  refine cl_L_24 dL_law_336 hq (Nat.le_of_ble_eq_true rfl) (LCi_go (P := fun r h' => LE g uL 339 [.ref 900, .ref 0, .ref 11, .ref 61, .int i, .retAddr 0, .retAddr 0] (.int r :: []) h' Q) ?_ (fun _ _ q => q))
  refine k_X10_book (gx g (i + 1).toNatClampNeg) hJ (fun r1 h1 hJ1 s1 => ?_)
  refine l_pop dL_law_339 rfl ?_
  refine l_aload_n dL_law_340 rfl ?_
  refine l_aload_n dL_law_341 rfl ?_
  refine l_iload dL_law_342 rfl ?_
  refine l_iconst (v := 1) dL_law_344 (by decide) ?_
  refine l_iadd dL_law_345 ?_
  refine l_sld dL_law_346 hin1 ?_
  refine cl_L_27 dL_law_347 hq (Nat.le_of_ble_eq_true rfl) (LCi_go (P := fun r h' => LE g uL 350 [.ref 900, .ref 0, .ref 11, .ref 61, .int i, .retAddr 0, .retAddr 0] (.int r :: []) h' Q) ?_ (fun _ _ q => q))
  refine k_X11_book (gx g (i + 1).toNatClampNeg) (T := fun j => mI h 12 j) hJ1 (book_T he s1) (fun r2 h2 hJ2 s2 => ?_)
  refine l_pop dL_law_350 rfl ?_
  refine l_goto 1583 dL_law_351 (by decide) ?_
  exact K h2 hJ2 (book_RR hJ hJ1 hJ2 he s1 s2)
set_option maxRecDepth 100000 in
set_option maxHeartbeats 4000000 in
theorem lc_2 {g : gT} {h : mh_T} {Q : Nat × Nat} (i : Int32) (k : Nat) (ei : i.toInt = (k : Int)) (hk : k + 7 ≤ gN g) (hN : gN g ≤ 3584) (hJ : JJ h) (he : RR h) (hq : Q.1 ≤ 601024 ∧ Q.2 ≤ 7293034) (K : ∀ h', JJ h' → RR h' → LE g uL 1583 [.ref 900, .ref 0, .ref 11, .ref 61, .int i, .retAddr 0, .retAddr 0] [] h' Q) : LE g uL 354 [.ref 900, .ref 0, .ref 11, .ref 61, .int i, .retAddr 0, .retAddr 0] [] h Q := by
  refine l_aload_n dL_law_354 rfl ?_
  refine cl_L_28 dL_law_355 hq (Nat.le_of_ble_eq_true rfl) (LCi_go (P := fun r h' => LE g uL 358 [.ref 900, .ref 0, .ref 11, .ref 61, .int i, .retAddr 0, .retAddr 0] (.int r :: []) h' Q) ?_ (fun _ _ q => q))
  refine k_X10_fault  hJ (fun r1 h1 hJ1 s1 => ?_)
  refine l_pop dL_law_358 rfl ?_
  refine l_aload_n dL_law_359 rfl ?_
  refine cl_L_32 dL_law_360 hq (Nat.le_of_ble_eq_true rfl) (LCi_go (P := fun r h' => LE g uL 363 [.ref 900, .ref 0, .ref 11, .ref 61, .int i, .retAddr 0, .retAddr 0] (.int r :: []) h' Q) ?_ (fun _ _ q => q))
  refine k_X11_fault  hJ1 (fun r2 h2 hJ2 s2 => ?_)
  refine l_pop dL_law_363 rfl ?_
  refine l_goto 1583 dL_law_364 (by decide) ?_
  exact K h2 hJ2 (RR_s hJ1 s2 (RR_s hJ s1 he))
set_option maxRecDepth 100000 in
set_option maxHeartbeats 4000000 in
theorem lc_3 {g : gT} {h : mh_T} {Q : Nat × Nat} (i : Int32) (k : Nat) (ei : i.toInt = (k : Int)) (hk : k + 7 ≤ gN g) (hN : gN g ≤ 3584) (hJ : JJ h) (he : RR h) (hq : Q.1 ≤ 601024 ∧ Q.2 ≤ 7293034) (K : ∀ h', JJ h' → RR h' → LE g uL 1583 [.ref 900, .ref 0, .ref 11, .ref 61, .int i, .retAddr 0, .retAddr 0] [] h' Q) : LE g uL 367 [.ref 900, .ref 0, .ref 11, .ref 61, .int i, .retAddr 0, .retAddr 0] [] h Q := by
  refine l_aload_n dL_law_367 rfl ?_
  refine cl_L_33 dL_law_368 hq (Nat.le_of_ble_eq_true rfl) (LCi_go (P := fun r h' => LE g uL 371 [.ref 900, .ref 0, .ref 11, .ref 61, .int i, .retAddr 0, .retAddr 0] (.int r :: []) h' Q) ?_ (fun _ _ q => q))
  refine k_X10_where  hJ (fun r1 h1 hJ1 s1 => ?_)
  refine l_pop dL_law_371 rfl ?_
  refine l_aload_n dL_law_372 rfl ?_
  refine cl_L_36 dL_law_373 hq (Nat.le_of_ble_eq_true rfl) (LCi_go (P := fun r h' => LE g uL 376 [.ref 900, .ref 0, .ref 11, .ref 61, .int i, .retAddr 0, .retAddr 0] (.int r :: []) h' Q) ?_ (fun _ _ q => q))
  refine k_X11_where  hJ1 (fun r2 h2 hJ2 s2 => ?_)
  refine l_pop dL_law_376 rfl ?_
  refine l_goto 1583 dL_law_377 (by decide) ?_
  exact K h2 hJ2 (RR_s hJ1 s2 (RR_s hJ s1 he))
set_option maxRecDepth 100000 in
set_option maxHeartbeats 4000000 in
theorem lc_4 {g : gT} {h : mh_T} {Q : Nat × Nat} (i : Int32) (k : Nat) (ei : i.toInt = (k : Int)) (hk : k + 7 ≤ gN g) (hN : gN g ≤ 3584) (hJ : JJ h) (he : RR h) (hq : Q.1 ≤ 601024 ∧ Q.2 ≤ 7293034) (K : ∀ h', JJ h' → RR h' → LE g uL 1583 [.ref 900, .ref 0, .ref 11, .ref 61, .int i, .retAddr 0, .retAddr 0] [] h' Q) : LE g uL 380 [.ref 900, .ref 0, .ref 11, .ref 61, .int i, .retAddr 0, .retAddr 0] [] h Q := by
  have hin1 : vp_in (i + 1) (gN g) := l_in ei (c := 1) (d := 1) (by decide) (by omega) (by omega)
  refine l_aload_n dL_law_380 rfl ?_
  refine l_aload_n dL_law_381 rfl ?_
  refine l_iload dL_law_382 rfl ?_
  refine l_iconst (v := 1) dL_law_384 (by decide) ?_
  refine l_iadd dL_law_385 ?_
  refine l_sld dL_law_386 hin1 ?_
  suffices hj1 : ∀ v1 : Int32, v1 = (if (gx g (i + 1).toNatClampNeg) = 0 then 0 else 1) → LE g uL 395 [.ref 900, .ref 0, .ref 11, .ref 61, .int i, .retAddr 0, .retAddr 0] [.int v1, .ref 0] h Q from l_if_eq 394 dL_law_387 (by decide) (fun z => l_iconst (v := 0) dL_law_394 (by decide) (hj1 0 (if_pos z).symm)) (fun z => l_iconst (v := 1) dL_law_390 (by decide) (l_goto 395 dL_law_391 (by decide) (hj1 1 (if_neg z).symm)))
  intro v1 hv1
  refine cl_L_37 dL_law_395 hq (Nat.le_of_ble_eq_true rfl) (LCi_go (P := fun r h' => LE g uL 398 [.ref 900, .ref 0, .ref 11, .ref 61, .int i, .retAddr 0, .retAddr 0] (.int r :: []) h' Q) ?_ (fun _ _ q => q))
  refine k_X10_share v1 hJ (fun r1 h1 hJ1 s1 => ?_)
  refine l_pop dL_law_398 rfl ?_
  refine l_aload_n dL_law_399 rfl ?_
  refine l_aload_n dL_law_400 rfl ?_
  refine l_iload dL_law_401 rfl ?_
  refine l_iconst (v := 1) dL_law_403 (by decide) ?_
  refine l_iadd dL_law_404 ?_
  refine l_sld dL_law_405 hin1 ?_
  suffices hj2 : ∀ v2 : Int32, v2 = (if (gx g (i + 1).toNatClampNeg) = 0 then 0 else 1) → LE g uL 414 [.ref 900, .ref 0, .ref 11, .ref 61, .int i, .retAddr 0, .retAddr 0] [.int v2, .ref 11] h1 Q from l_if_eq 413 dL_law_406 (by decide) (fun z => l_iconst (v := 0) dL_law_413 (by decide) (hj2 0 (if_pos z).symm)) (fun z => l_iconst (v := 1) dL_law_409 (by decide) (l_goto 414 dL_law_410 (by decide) (hj2 1 (if_neg z).symm)))
  intro v2 hv2
  rw [show v2 = v1 from hv2.trans hv1.symm]
  refine cl_L_41 dL_law_414 hq (Nat.le_of_ble_eq_true rfl) (LCi_go (P := fun r h' => LE g uL 417 [.ref 900, .ref 0, .ref 11, .ref 61, .int i, .retAddr 0, .retAddr 0] (.int r :: []) h' Q) ?_ (fun _ _ q => q))
  refine k_X11_share v1 hJ1 (fun r2 h2 hJ2 s2 => ?_)
  refine l_pop dL_law_417 rfl ?_
  refine l_goto 1583 dL_law_418 (by decide) ?_
  exact K h2 hJ2 (RR_s hJ1 s2 (RR_s hJ s1 he))
set_option maxRecDepth 100000 in
set_option maxHeartbeats 4000000 in
theorem lc_5 {g : gT} {h : mh_T} {Q : Nat × Nat} (i : Int32) (k : Nat) (ei : i.toInt = (k : Int)) (hk : k + 7 ≤ gN g) (hN : gN g ≤ 3584) (hJ : JJ h) (he : RR h) (hq : Q.1 ≤ 601024 ∧ Q.2 ≤ 7293034) (K : ∀ h', JJ h' → RR h' → LE g uL 1583 [.ref 900, .ref 0, .ref 11, .ref 61, .int i, .retAddr 0, .retAddr 0] [] h' Q) : LE g uL 421 [.ref 900, .ref 0, .ref 11, .ref 61, .int i, .retAddr 0, .retAddr 0] [] h Q := by
  have hin1 : vp_in (i + 1) (gN g) := l_in ei (c := 1) (d := 1) (by decide) (by omega) (by omega)
  have hin2 : vp_in (i + 2) (gN g) := l_in ei (c := 2) (d := 2) (by decide) (by omega) (by omega)
  have hin3 : vp_in (i + 3) (gN g) := l_in ei (c := 3) (d := 3) (by decide) (by omega) (by omega)
  have hin4 : vp_in (i + 4) (gN g) := l_in ei (c := 4) (d := 4) (by decide) (by omega) (by omega)
  have hin5 : vp_in (i + 5) (gN g) := l_in ei (c := 5) (d := 5) (by decide) (by omega) (by omega)
  have hin6 : vp_in (i + 6) (gN g) := l_in ei (c := 6) (d := 6) (by decide) (by omega) (by omega)
  refine l_aload_n dL_law_421 rfl ?_
  refine l_aload_n dL_law_422 rfl ?_
  refine l_iload dL_law_423 rfl ?_
  refine l_iconst (v := 1) dL_law_425 (by decide) ?_
  refine l_iadd dL_law_426 ?_
  refine l_sld dL_law_427 hin1 ?_
  refine l_aload_n dL_law_428 rfl ?_
  refine l_iload dL_law_429 rfl ?_
  refine l_iconst (v := 2) dL_law_431 (by decide) ?_
  refine l_iadd dL_law_432 ?_
  refine l_sld dL_law_433 hin2 ?_
  refine l_aload_n dL_law_434 rfl ?_
  refine l_iload dL_law_435 rfl ?_
  refine l_iconst (v := 3) dL_law_437 (by decide) ?_
  refine l_iadd dL_law_438 ?_
  refine l_sld dL_law_439 hin3 ?_
  refine l_aload_n dL_law_440 rfl ?_
  refine l_iload dL_law_441 rfl ?_
  refine l_iconst (v := 4) dL_law_443 (by decide) ?_
  refine l_iadd dL_law_444 ?_
  refine l_sld dL_law_445 hin4 ?_
  refine l_aload_n dL_law_446 rfl ?_
  refine l_iload dL_law_447 rfl ?_
  refine l_iconst (v := 5) dL_law_449 (by decide) ?_
  refine l_iadd dL_law_450 ?_
  refine l_sld dL_law_451 hin5 ?_
  suffices hj1 : ∀ v1 : Int32, v1 = (if (gx g (i + 5).toNatClampNeg) = 0 then 0 else 1) → LE g uL 460 [.ref 900, .ref 0, .ref 11, .ref 61, .int i, .retAddr 0, .retAddr 0] [.int v1, .int (gx g (i + 4).toNatClampNeg), .int (gx g (i + 3).toNatClampNeg), .int (gx g (i + 2).toNatClampNeg), .int (gx g (i + 1).toNatClampNeg), .ref 0] h Q from l_if_eq 459 dL_law_452 (by decide) (fun z => l_iconst (v := 0) dL_law_459 (by decide) (hj1 0 (if_pos z).symm)) (fun z => l_iconst (v := 1) dL_law_455 (by decide) (l_goto 460 dL_law_456 (by decide) (hj1 1 (if_neg z).symm)))
  intro v1 hv1
  refine l_aload_n dL_law_460 rfl ?_
  refine l_iload dL_law_461 rfl ?_
  refine l_bipush (v := 6) dL_law_463 (by decide) ?_
  refine l_iadd dL_law_465 ?_
  refine l_sld dL_law_466 hin6 ?_
  suffices hj2 : ∀ v2 : Int32, v2 = (if (gx g (i + 6).toNatClampNeg) = 0 then 0 else 1) → LE g uL 475 [.ref 900, .ref 0, .ref 11, .ref 61, .int i, .retAddr 0, .retAddr 0] [.int v2, .int v1, .int (gx g (i + 4).toNatClampNeg), .int (gx g (i + 3).toNatClampNeg), .int (gx g (i + 2).toNatClampNeg), .int (gx g (i + 1).toNatClampNeg), .ref 0] h Q from l_if_eq 474 dL_law_467 (by decide) (fun z => l_iconst (v := 0) dL_law_474 (by decide) (hj2 0 (if_pos z).symm)) (fun z => l_iconst (v := 1) dL_law_470 (by decide) (l_goto 475 dL_law_471 (by decide) (hj2 1 (if_neg z).symm)))
  intro v2 hv2
  refine cl_L_42 dL_law_475 hq (Nat.le_of_ble_eq_true rfl) (LCi_go (P := fun r h' => LE g uL 478 [.ref 900, .ref 0, .ref 11, .ref 61, .int i, .retAddr 0, .retAddr 0] (.int r :: []) h' Q) ?_ (fun _ _ q => q))
  refine k_X10_together (gx g (i + 1).toNatClampNeg) (gx g (i + 2).toNatClampNeg) (gx g (i + 3).toNatClampNeg) (gx g (i + 4).toNatClampNeg) v1 v2 hJ (fun r1 h1 hJ1 s1 => ?_)
  refine l_pop dL_law_478 rfl ?_
  refine l_aload_n dL_law_479 rfl ?_
  refine l_aload_n dL_law_480 rfl ?_
  refine l_iload dL_law_481 rfl ?_
  refine l_iconst (v := 1) dL_law_483 (by decide) ?_
  refine l_iadd dL_law_484 ?_
  refine l_sld dL_law_485 hin1 ?_
  refine l_aload_n dL_law_486 rfl ?_
  refine l_iload dL_law_487 rfl ?_
  refine l_iconst (v := 2) dL_law_489 (by decide) ?_
  refine l_iadd dL_law_490 ?_
  refine l_sld dL_law_491 hin2 ?_
  refine l_aload_n dL_law_492 rfl ?_
  refine l_iload dL_law_493 rfl ?_
  refine l_iconst (v := 3) dL_law_495 (by decide) ?_
  refine l_iadd dL_law_496 ?_
  refine l_sld dL_law_497 hin3 ?_
  refine l_aload_n dL_law_498 rfl ?_
  refine l_iload dL_law_499 rfl ?_
  refine l_iconst (v := 4) dL_law_501 (by decide) ?_
  refine l_iadd dL_law_502 ?_
  refine l_sld dL_law_503 hin4 ?_
  refine l_aload_n dL_law_504 rfl ?_
  refine l_iload dL_law_505 rfl ?_
  refine l_iconst (v := 5) dL_law_507 (by decide) ?_
  refine l_iadd dL_law_508 ?_
  refine l_sld dL_law_509 hin5 ?_
  suffices hj3 : ∀ v3 : Int32, v3 = (if (gx g (i + 5).toNatClampNeg) = 0 then 0 else 1) → LE g uL 518 [.ref 900, .ref 0, .ref 11, .ref 61, .int i, .retAddr 0, .retAddr 0] [.int v3, .int (gx g (i + 4).toNatClampNeg), .int (gx g (i + 3).toNatClampNeg), .int (gx g (i + 2).toNatClampNeg), .int (gx g (i + 1).toNatClampNeg), .ref 11] h1 Q from l_if_eq 517 dL_law_510 (by decide) (fun z => l_iconst (v := 0) dL_law_517 (by decide) (hj3 0 (if_pos z).symm)) (fun z => l_iconst (v := 1) dL_law_513 (by decide) (l_goto 518 dL_law_514 (by decide) (hj3 1 (if_neg z).symm)))
  intro v3 hv3
  rw [show v3 = v1 from hv3.trans hv1.symm]
  refine l_aload_n dL_law_518 rfl ?_
  refine l_iload dL_law_519 rfl ?_
  refine l_bipush (v := 6) dL_law_521 (by decide) ?_
  refine l_iadd dL_law_523 ?_
  refine l_sld dL_law_524 hin6 ?_
  suffices hj4 : ∀ v4 : Int32, v4 = (if (gx g (i + 6).toNatClampNeg) = 0 then 0 else 1) → LE g uL 533 [.ref 900, .ref 0, .ref 11, .ref 61, .int i, .retAddr 0, .retAddr 0] [.int v4, .int v1, .int (gx g (i + 4).toNatClampNeg), .int (gx g (i + 3).toNatClampNeg), .int (gx g (i + 2).toNatClampNeg), .int (gx g (i + 1).toNatClampNeg), .ref 11] h1 Q from l_if_eq 532 dL_law_525 (by decide) (fun z => l_iconst (v := 0) dL_law_532 (by decide) (hj4 0 (if_pos z).symm)) (fun z => l_iconst (v := 1) dL_law_528 (by decide) (l_goto 533 dL_law_529 (by decide) (hj4 1 (if_neg z).symm)))
  intro v4 hv4
  rw [show v4 = v2 from hv4.trans hv2.symm]
  refine cl_L_46 dL_law_533 hq (Nat.le_of_ble_eq_true rfl) (LCi_go (P := fun r h' => LE g uL 536 [.ref 900, .ref 0, .ref 11, .ref 61, .int i, .retAddr 0, .retAddr 0] (.int r :: []) h' Q) ?_ (fun _ _ q => q))
  refine k_X11_together (gx g (i + 1).toNatClampNeg) (gx g (i + 2).toNatClampNeg) (gx g (i + 3).toNatClampNeg) (gx g (i + 4).toNatClampNeg) v1 v2 hJ1 (fun r2 h2 hJ2 s2 => ?_)
  refine l_pop dL_law_536 rfl ?_
  refine l_goto 1583 dL_law_537 (by decide) ?_
  exact K h2 hJ2 (RR_s hJ1 s2 (RR_s hJ s1 he))
set_option maxRecDepth 100000 in
set_option maxHeartbeats 4000000 in
theorem lc_6 {g : gT} {h : mh_T} {Q : Nat × Nat} (i : Int32) (k : Nat) (ei : i.toInt = (k : Int)) (hk : k + 7 ≤ gN g) (hN : gN g ≤ 3584) (hJ : JJ h) (he : RR h) (hq : Q.1 ≤ 601024 ∧ Q.2 ≤ 7293034) (K : ∀ h', JJ h' → RR h' → LE g uL 1583 [.ref 900, .ref 0, .ref 11, .ref 61, .int i, .retAddr 0, .retAddr 0] [] h' Q) : LE g uL 540 [.ref 900, .ref 0, .ref 11, .ref 61, .int i, .retAddr 0, .retAddr 0] [] h Q := by
  have hin1 : vp_in (i + 1) (gN g) := l_in ei (c := 1) (d := 1) (by decide) (by omega) (by omega)
  have hin2 : vp_in (i + 2) (gN g) := l_in ei (c := 2) (d := 2) (by decide) (by omega) (by omega)
  refine l_aload_n dL_law_540 rfl ?_
  refine l_aload_n dL_law_541 rfl ?_
  refine l_iload dL_law_542 rfl ?_
  refine l_iconst (v := 1) dL_law_544 (by decide) ?_
  refine l_iadd dL_law_545 ?_
  refine l_sld dL_law_546 hin1 ?_
  refine l_aload_n dL_law_547 rfl ?_
  refine l_iload dL_law_548 rfl ?_
  refine l_iconst (v := 2) dL_law_550 (by decide) ?_
  refine l_iadd dL_law_551 ?_
  refine l_sld dL_law_552 hin2 ?_
  refine cl_L_47 dL_law_553 hq (Nat.le_of_ble_eq_true rfl) (LCi_go (P := fun r h' => LE g uL 556 [.ref 900, .ref 0, .ref 11, .ref 61, .int i, .retAddr 0, .retAddr 0] (.int r :: []) h' Q) ?_ (fun _ _ q => q))
  refine k_X10_extend (gx g (i + 1).toNatClampNeg) (gx g (i + 2).toNatClampNeg) hJ (fun r1 h1 hJ1 s1 => ?_)
  refine l_pop dL_law_556 rfl ?_
  refine l_aload_n dL_law_557 rfl ?_
  refine l_aload_n dL_law_558 rfl ?_
  refine l_iload dL_law_559 rfl ?_
  refine l_iconst (v := 1) dL_law_561 (by decide) ?_
  refine l_iadd dL_law_562 ?_
  refine l_sld dL_law_563 hin1 ?_
  refine l_aload_n dL_law_564 rfl ?_
  refine l_iload dL_law_565 rfl ?_
  refine l_iconst (v := 2) dL_law_567 (by decide) ?_
  refine l_iadd dL_law_568 ?_
  refine l_sld dL_law_569 hin2 ?_
  refine cl_L_51 dL_law_570 hq (Nat.le_of_ble_eq_true rfl) (LCi_go (P := fun r h' => LE g uL 573 [.ref 900, .ref 0, .ref 11, .ref 61, .int i, .retAddr 0, .retAddr 0] (.int r :: []) h' Q) ?_ (fun _ _ q => q))
  refine k_X11_extend (gx g (i + 1).toNatClampNeg) (gx g (i + 2).toNatClampNeg) hJ1 (fun r2 h2 hJ2 s2 => ?_)
  refine l_pop dL_law_573 rfl ?_
  refine l_goto 1583 dL_law_574 (by decide) ?_
  exact K h2 hJ2 (RR_s hJ1 s2 (RR_s hJ s1 he))
set_option maxRecDepth 100000 in
set_option maxHeartbeats 4000000 in
theorem lc_7 {g : gT} {h : mh_T} {Q : Nat × Nat} (i : Int32) (k : Nat) (ei : i.toInt = (k : Int)) (hk : k + 7 ≤ gN g) (hN : gN g ≤ 3584) (hJ : JJ h) (he : RR h) (hq : Q.1 ≤ 601024 ∧ Q.2 ≤ 7293034) (K : ∀ h', JJ h' → RR h' → LE g uL 1583 [.ref 900, .ref 0, .ref 11, .ref 61, .int i, .retAddr 0, .retAddr 0] [] h' Q) : LE g uL 577 [.ref 900, .ref 0, .ref 11, .ref 61, .int i, .retAddr 0, .retAddr 0] [] h Q := by
  refine l_aload_n dL_law_577 rfl ?_
  refine cl_L_52 dL_law_578 hq (Nat.le_of_ble_eq_true rfl) (LCi_go (P := fun r h' => LE g uL 581 [.ref 900, .ref 0, .ref 11, .ref 61, .int i, .retAddr 0, .retAddr 0] (.int r :: []) h' Q) ?_ (fun _ _ q => q))
  refine k_X10_level  hJ (fun r1 h1 hJ1 s1 => ?_)
  refine l_pop dL_law_581 rfl ?_
  refine l_aload_n dL_law_582 rfl ?_
  refine cl_L_55 dL_law_583 hq (Nat.le_of_ble_eq_true rfl) (LCi_go (P := fun r h' => LE g uL 586 [.ref 900, .ref 0, .ref 11, .ref 61, .int i, .retAddr 0, .retAddr 0] (.int r :: []) h' Q) ?_ (fun _ _ q => q))
  refine k_X11_level  hJ1 (fun r2 h2 hJ2 s2 => ?_)
  refine l_pop dL_law_586 rfl ?_
  refine l_goto 1583 dL_law_587 (by decide) ?_
  exact K h2 hJ2 (RR_s hJ1 s2 (RR_s hJ s1 he))
set_option maxRecDepth 100000 in
set_option maxHeartbeats 4000000 in
theorem lc_8 {g : gT} {h : mh_T} {Q : Nat × Nat} (i : Int32) (k : Nat) (ei : i.toInt = (k : Int)) (hk : k + 7 ≤ gN g) (hN : gN g ≤ 3584) (hJ : JJ h) (he : RR h) (hq : Q.1 ≤ 601024 ∧ Q.2 ≤ 7293034) (K : ∀ h', JJ h' → RR h' → LE g uL 1583 [.ref 900, .ref 0, .ref 11, .ref 61, .int i, .retAddr 0, .retAddr 0] [] h' Q) : LE g uL 590 [.ref 900, .ref 0, .ref 11, .ref 61, .int i, .retAddr 0, .retAddr 0] [] h Q := by
  refine l_aload_n dL_law_590 rfl ?_
  refine cl_L_56 dL_law_591 hq (Nat.le_of_ble_eq_true rfl) (LCi_go (P := fun r h' => LE g uL 594 [.ref 900, .ref 0, .ref 11, .ref 61, .int i, .retAddr 0, .retAddr 0] (.int r :: []) h' Q) ?_ (fun _ _ q => q))
  refine k_X10_hidden  hJ (fun r1 h1 hJ1 s1 => ?_)
  refine l_pop dL_law_594 rfl ?_
  refine l_aload_n dL_law_595 rfl ?_
  refine cl_L_59 dL_law_596 hq (Nat.le_of_ble_eq_true rfl) (LCi_go (P := fun r h' => LE g uL 599 [.ref 900, .ref 0, .ref 11, .ref 61, .int i, .retAddr 0, .retAddr 0] (.int r :: []) h' Q) ?_ (fun _ _ q => q))
  refine k_X11_hidden  hJ1 (fun r2 h2 hJ2 s2 => ?_)
  refine l_pop dL_law_599 rfl ?_
  refine l_goto 1583 dL_law_600 (by decide) ?_
  exact K h2 hJ2 (RR_s hJ1 s2 (RR_s hJ s1 he))
set_option maxRecDepth 100000 in
set_option maxHeartbeats 4000000 in
theorem lc_9 {g : gT} {h : mh_T} {Q : Nat × Nat} (i : Int32) (k : Nat) (ei : i.toInt = (k : Int)) (hk : k + 7 ≤ gN g) (hN : gN g ≤ 3584) (hJ : JJ h) (he : RR h) (hq : Q.1 ≤ 601024 ∧ Q.2 ≤ 7293034) (K : ∀ h', JJ h' → RR h' → LE g uL 1583 [.ref 900, .ref 0, .ref 11, .ref 61, .int i, .retAddr 0, .retAddr 0] [] h' Q) : LE g uL 603 [.ref 900, .ref 0, .ref 11, .ref 61, .int i, .retAddr 0, .retAddr 0] [] h Q := by
  have hin1 : vp_in (i + 1) (gN g) := l_in ei (c := 1) (d := 1) (by decide) (by omega) (by omega)
  refine l_aload_n dL_law_603 rfl ?_
  refine l_aload_n dL_law_604 rfl ?_
  refine l_iload dL_law_605 rfl ?_
  refine l_iconst (v := 1) dL_law_607 (by decide) ?_
  refine l_iadd dL_law_608 ?_
  refine l_sld dL_law_609 hin1 ?_
  refine cl_L_60 dL_law_610 hq (Nat.le_of_ble_eq_true rfl) (LCi_go (P := fun r h' => LE g uL 613 [.ref 900, .ref 0, .ref 11, .ref 61, .int i, .retAddr 0, .retAddr 0] (.int r :: []) h' Q) ?_ (fun _ _ q => q))
  refine k_X10_answer (gx g (i + 1).toNatClampNeg) hJ (fun r1 h1 hJ1 s1 => ?_)
  refine l_pop dL_law_613 rfl ?_
  refine l_aload_n dL_law_614 rfl ?_
  refine l_aload_n dL_law_615 rfl ?_
  refine l_iload dL_law_616 rfl ?_
  refine l_iconst (v := 1) dL_law_618 (by decide) ?_
  refine l_iadd dL_law_619 ?_
  refine l_sld dL_law_620 hin1 ?_
  refine cl_L_63 dL_law_621 hq (Nat.le_of_ble_eq_true rfl) (LCi_go (P := fun r h' => LE g uL 624 [.ref 900, .ref 0, .ref 11, .ref 61, .int i, .retAddr 0, .retAddr 0] (.int r :: []) h' Q) ?_ (fun _ _ q => q))
  refine k_X11_answer (gx g (i + 1).toNatClampNeg) hJ1 (fun r2 h2 hJ2 s2 => ?_)
  refine l_pop dL_law_624 rfl ?_
  refine l_goto 1583 dL_law_625 (by decide) ?_
  exact K h2 hJ2 (RR_s hJ1 s2 (RR_s hJ s1 he))
set_option maxRecDepth 100000 in
set_option maxHeartbeats 4000000 in
theorem lc_10 {g : gT} {h : mh_T} {Q : Nat × Nat} (i : Int32) (k : Nat) (ei : i.toInt = (k : Int)) (hk : k + 7 ≤ gN g) (hN : gN g ≤ 3584) (hJ : JJ h) (he : RR h) (hq : Q.1 ≤ 601024 ∧ Q.2 ≤ 7293034) (K : ∀ h', JJ h' → RR h' → LE g uL 1583 [.ref 900, .ref 0, .ref 11, .ref 61, .int i, .retAddr 0, .retAddr 0] [] h' Q) : LE g uL 628 [.ref 900, .ref 0, .ref 11, .ref 61, .int i, .retAddr 0, .retAddr 0] [] h Q := by
  refine l_aload_n dL_law_628 rfl ?_
  refine cl_L_64 dL_law_629 hq (Nat.le_of_ble_eq_true rfl) (LCi_go (P := fun r h' => LE g uL 632 [.ref 900, .ref 0, .ref 11, .ref 61, .int i, .retAddr 0, .retAddr 0] (.int r :: []) h' Q) ?_ (fun _ _ q => q))
  refine k_X10_disturbed  hJ (fun r1 h1 hJ1 s1 => ?_)
  refine l_pop dL_law_632 rfl ?_
  refine l_aload_n dL_law_633 rfl ?_
  refine cl_L_67 dL_law_634 hq (Nat.le_of_ble_eq_true rfl) (LCi_go (P := fun r h' => LE g uL 637 [.ref 900, .ref 0, .ref 11, .ref 61, .int i, .retAddr 0, .retAddr 0] (.int r :: []) h' Q) ?_ (fun _ _ q => q))
  refine k_X11_disturbed  hJ1 (fun r2 h2 hJ2 s2 => ?_)
  refine l_pop dL_law_637 rfl ?_
  refine l_goto 1583 dL_law_638 (by decide) ?_
  exact K h2 hJ2 (RR_s hJ1 s2 (RR_s hJ s1 he))
set_option maxRecDepth 100000 in
set_option maxHeartbeats 4000000 in
theorem lc_11 {g : gT} {h : mh_T} {Q : Nat × Nat} (i : Int32) (k : Nat) (ei : i.toInt = (k : Int)) (hk : k + 7 ≤ gN g) (hN : gN g ≤ 3584) (hJ : JJ h) (he : RR h) (hq : Q.1 ≤ 601024 ∧ Q.2 ≤ 7293034) (K : ∀ h', JJ h' → RR h' → LE g uL 1583 [.ref 900, .ref 0, .ref 11, .ref 61, .int i, .retAddr 0, .retAddr 0] [] h' Q) : LE g uL 641 [.ref 900, .ref 0, .ref 11, .ref 61, .int i, .retAddr 0, .retAddr 0] [] h Q := by
  have hin1 : vp_in (i + 1) (gN g) := l_in ei (c := 1) (d := 1) (by decide) (by omega) (by omega)
  refine l_aload_n dL_law_641 rfl ?_
  refine l_aload_n dL_law_642 rfl ?_
  refine l_iload dL_law_643 rfl ?_
  refine l_iconst (v := 1) dL_law_645 (by decide) ?_
  refine l_iadd dL_law_646 ?_
  refine l_sld dL_law_647 hin1 ?_
  refine cl_L_68 dL_law_648 hq (Nat.le_of_ble_eq_true rfl) (LCi_go (P := fun r h' => LE g uL 651 [.ref 900, .ref 0, .ref 11, .ref 61, .int i, .retAddr 0, .retAddr 0] (.int r :: []) h' Q) ?_ (fun _ _ q => q))
  refine k_X10_same (gx g (i + 1).toNatClampNeg) hJ (fun r1 h1 hJ1 s1 => ?_)
  refine l_pop dL_law_651 rfl ?_
  refine l_aload_n dL_law_652 rfl ?_
  refine l_aload_n dL_law_653 rfl ?_
  refine l_iload dL_law_654 rfl ?_
  refine l_iconst (v := 1) dL_law_656 (by decide) ?_
  refine l_iadd dL_law_657 ?_
  refine l_sld dL_law_658 hin1 ?_
  refine cl_L_71 dL_law_659 hq (Nat.le_of_ble_eq_true rfl) (LCi_go (P := fun r h' => LE g uL 662 [.ref 900, .ref 0, .ref 11, .ref 61, .int i, .retAddr 0, .retAddr 0] (.int r :: []) h' Q) ?_ (fun _ _ q => q))
  refine k_X11_same (gx g (i + 1).toNatClampNeg) hJ1 (fun r2 h2 hJ2 s2 => ?_)
  refine l_pop dL_law_662 rfl ?_
  refine l_goto 1583 dL_law_663 (by decide) ?_
  exact K h2 hJ2 (RR_s hJ1 s2 (RR_s hJ s1 he))
set_option maxRecDepth 100000 in
set_option maxHeartbeats 4000000 in
theorem lc_12 {g : gT} {h : mh_T} {Q : Nat × Nat} (i : Int32) (k : Nat) (ei : i.toInt = (k : Int)) (hk : k + 7 ≤ gN g) (hN : gN g ≤ 3584) (hJ : JJ h) (he : RR h) (hq : Q.1 ≤ 601024 ∧ Q.2 ≤ 7293034) (K : ∀ h', JJ h' → RR h' → LE g uL 1583 [.ref 900, .ref 0, .ref 11, .ref 61, .int i, .retAddr 0, .retAddr 0] [] h' Q) : LE g uL 666 [.ref 900, .ref 0, .ref 11, .ref 61, .int i, .retAddr 0, .retAddr 0] [] h Q := by
  refine l_aload_n dL_law_666 rfl ?_
  refine cl_L_72 dL_law_667 hq (Nat.le_of_ble_eq_true rfl) (LCi_go (P := fun r h' => LE g uL 670 [.ref 900, .ref 0, .ref 11, .ref 61, .int i, .retAddr 0, .retAddr 0] (.int r :: []) h' Q) ?_ (fun _ _ q => q))
  refine k_X10_cycles  hJ (fun r1 h1 hJ1 s1 => ?_)
  refine l_pop dL_law_670 rfl ?_
  refine l_aload_n dL_law_671 rfl ?_
  refine cl_L_75 dL_law_672 hq (Nat.le_of_ble_eq_true rfl) (LCi_go (P := fun r h' => LE g uL 675 [.ref 900, .ref 0, .ref 11, .ref 61, .int i, .retAddr 0, .retAddr 0] (.int r :: []) h' Q) ?_ (fun _ _ q => q))
  refine k_X11_cycles  hJ1 (fun r2 h2 hJ2 s2 => ?_)
  refine l_pop dL_law_675 rfl ?_
  refine l_goto 1583 dL_law_676 (by decide) ?_
  exact K h2 hJ2 (RR_s hJ1 s2 (RR_s hJ s1 he))
set_option maxRecDepth 100000 in
set_option maxHeartbeats 4000000 in
theorem lc_13 {g : gT} {h : mh_T} {Q : Nat × Nat} (i : Int32) (k : Nat) (ei : i.toInt = (k : Int)) (hk : k + 7 ≤ gN g) (hN : gN g ≤ 3584) (hJ : JJ h) (he : RR h) (hq : Q.1 ≤ 601024 ∧ Q.2 ≤ 7293034) (K : ∀ h', JJ h' → RR h' → LE g uL 1583 [.ref 900, .ref 0, .ref 11, .ref 61, .int i, .retAddr 0, .retAddr 0] [] h' Q) : LE g uL 679 [.ref 900, .ref 0, .ref 11, .ref 61, .int i, .retAddr 0, .retAddr 0] [] h Q := by
  have hin1 : vp_in (i + 1) (gN g) := l_in ei (c := 1) (d := 1) (by decide) (by omega) (by omega)
  refine l_aload_n dL_law_679 rfl ?_
  refine l_aload_n dL_law_680 rfl ?_
  refine l_iload dL_law_681 rfl ?_
  refine l_iconst (v := 1) dL_law_683 (by decide) ?_
  refine l_iadd dL_law_684 ?_
  refine l_sld dL_law_685 hin1 ?_
  refine cl_L_76 dL_law_686 hq (Nat.le_of_ble_eq_true rfl) (LCi_go (P := fun r h' => LE g uL 689 [.ref 900, .ref 0, .ref 11, .ref 61, .int i, .retAddr 0, .retAddr 0] (.int r :: []) h' Q) ?_ (fun _ _ q => q))
  refine k_X10_cycle (gx g (i + 1).toNatClampNeg) hJ (fun r1 h1 hJ1 s1 => ?_)
  refine l_pop dL_law_689 rfl ?_
  refine l_aload_n dL_law_690 rfl ?_
  refine l_aload_n dL_law_691 rfl ?_
  refine l_iload dL_law_692 rfl ?_
  refine l_iconst (v := 1) dL_law_694 (by decide) ?_
  refine l_iadd dL_law_695 ?_
  refine l_sld dL_law_696 hin1 ?_
  refine cl_L_79 dL_law_697 hq (Nat.le_of_ble_eq_true rfl) (LCi_go (P := fun r h' => LE g uL 700 [.ref 900, .ref 0, .ref 11, .ref 61, .int i, .retAddr 0, .retAddr 0] (.int r :: []) h' Q) ?_ (fun _ _ q => q))
  refine k_X11_cycle (gx g (i + 1).toNatClampNeg) hJ1 (fun r2 h2 hJ2 s2 => ?_)
  refine l_pop dL_law_700 rfl ?_
  refine l_goto 1583 dL_law_701 (by decide) ?_
  exact K h2 hJ2 (RR_s hJ1 s2 (RR_s hJ s1 he))
set_option maxRecDepth 100000 in
set_option maxHeartbeats 4000000 in
theorem lc_14 {g : gT} {h : mh_T} {Q : Nat × Nat} (i : Int32) (k : Nat) (ei : i.toInt = (k : Int)) (hk : k + 7 ≤ gN g) (hN : gN g ≤ 3584) (hJ : JJ h) (he : RR h) (hq : Q.1 ≤ 601024 ∧ Q.2 ≤ 7293034) (K : ∀ h', JJ h' → RR h' → LE g uL 1583 [.ref 900, .ref 0, .ref 11, .ref 61, .int i, .retAddr 0, .retAddr 0] [] h' Q) : LE g uL 704 [.ref 900, .ref 0, .ref 11, .ref 61, .int i, .retAddr 0, .retAddr 0] [] h Q := by
  have hin1 : vp_in (i + 1) (gN g) := l_in ei (c := 1) (d := 1) (by decide) (by omega) (by omega)
  refine l_aload_n dL_law_704 rfl ?_
  refine l_aload_n dL_law_705 rfl ?_
  refine l_iload dL_law_706 rfl ?_
  refine l_iconst (v := 1) dL_law_708 (by decide) ?_
  refine l_iadd dL_law_709 ?_
  refine l_sld dL_law_710 hin1 ?_
  refine cl_L_80 dL_law_711 hq (Nat.le_of_ble_eq_true rfl) (LCi_go (P := fun r h' => LE g uL 714 [.ref 900, .ref 0, .ref 11, .ref 61, .int i, .retAddr 0, .retAddr 0] (.int r :: []) h' Q) ?_ (fun _ _ q => q))
  refine k_X10_excess (gx g (i + 1).toNatClampNeg) hJ (fun r1 h1 hJ1 s1 => ?_)
  refine l_pop dL_law_714 rfl ?_
  refine l_aload_n dL_law_715 rfl ?_
  refine l_aload_n dL_law_716 rfl ?_
  refine l_iload dL_law_717 rfl ?_
  refine l_iconst (v := 1) dL_law_719 (by decide) ?_
  refine l_iadd dL_law_720 ?_
  refine l_sld dL_law_721 hin1 ?_
  refine cl_L_83 dL_law_722 hq (Nat.le_of_ble_eq_true rfl) (LCi_go (P := fun r h' => LE g uL 725 [.ref 900, .ref 0, .ref 11, .ref 61, .int i, .retAddr 0, .retAddr 0] (.int r :: []) h' Q) ?_ (fun _ _ q => q))
  refine k_X11_excess (gx g (i + 1).toNatClampNeg) hJ1 (fun r2 h2 hJ2 s2 => ?_)
  refine l_pop dL_law_725 rfl ?_
  refine l_goto 1583 dL_law_726 (by decide) ?_
  exact K h2 hJ2 (RR_s hJ1 s2 (RR_s hJ s1 he))
set_option maxRecDepth 100000 in
set_option maxHeartbeats 4000000 in
theorem lc_15 {g : gT} {h : mh_T} {Q : Nat × Nat} (i : Int32) (k : Nat) (ei : i.toInt = (k : Int)) (hk : k + 7 ≤ gN g) (hN : gN g ≤ 3584) (hJ : JJ h) (he : RR h) (hq : Q.1 ≤ 601024 ∧ Q.2 ≤ 7293034) (K : ∀ h', JJ h' → RR h' → LE g uL 1583 [.ref 900, .ref 0, .ref 11, .ref 61, .int i, .retAddr 0, .retAddr 0] [] h' Q) : LE g uL 729 [.ref 900, .ref 0, .ref 11, .ref 61, .int i, .retAddr 0, .retAddr 0] [] h Q := by
  refine l_aload_n dL_law_729 rfl ?_
  refine cl_L_84 dL_law_730 hq (Nat.le_of_ble_eq_true rfl) (LCi_go (P := fun r h' => LE g uL 733 [.ref 900, .ref 0, .ref 11, .ref 61, .int i, .retAddr 0, .retAddr 0] (.int r :: []) h' Q) ?_ (fun _ _ q => q))
  refine k_X10_widest  hJ (fun r1 h1 hJ1 s1 => ?_)
  refine l_pop dL_law_733 rfl ?_
  refine l_aload_n dL_law_734 rfl ?_
  refine cl_L_87 dL_law_735 hq (Nat.le_of_ble_eq_true rfl) (LCi_go (P := fun r h' => LE g uL 738 [.ref 900, .ref 0, .ref 11, .ref 61, .int i, .retAddr 0, .retAddr 0] (.int r :: []) h' Q) ?_ (fun _ _ q => q))
  refine k_X11_widest  hJ1 (fun r2 h2 hJ2 s2 => ?_)
  refine l_pop dL_law_738 rfl ?_
  refine l_goto 1583 dL_law_739 (by decide) ?_
  exact K h2 hJ2 (RR_s hJ1 s2 (RR_s hJ s1 he))
set_option maxRecDepth 100000 in
set_option maxHeartbeats 4000000 in
theorem lc_16 {g : gT} {h : mh_T} {Q : Nat × Nat} (i : Int32) (k : Nat) (ei : i.toInt = (k : Int)) (hk : k + 7 ≤ gN g) (hN : gN g ≤ 3584) (hJ : JJ h) (he : RR h) (hq : Q.1 ≤ 601024 ∧ Q.2 ≤ 7293034) (K : ∀ h', JJ h' → RR h' → LE g uL 1583 [.ref 900, .ref 0, .ref 11, .ref 61, .int i, .retAddr 0, .retAddr 0] [] h' Q) : LE g uL 742 [.ref 900, .ref 0, .ref 11, .ref 61, .int i, .retAddr 0, .retAddr 0] [] h Q := by
  have hin1 : vp_in (i + 1) (gN g) := l_in ei (c := 1) (d := 1) (by decide) (by omega) (by omega)
  have hin2 : vp_in (i + 2) (gN g) := l_in ei (c := 2) (d := 2) (by decide) (by omega) (by omega)
  have hin3 : vp_in (i + 3) (gN g) := l_in ei (c := 3) (d := 3) (by decide) (by omega) (by omega)
  refine l_aload_n dL_law_742 rfl ?_
  refine l_aload_n dL_law_743 rfl ?_
  refine l_iload dL_law_744 rfl ?_
  refine l_iconst (v := 1) dL_law_746 (by decide) ?_
  refine l_iadd dL_law_747 ?_
  refine l_sld dL_law_748 hin1 ?_
  refine l_aload_n dL_law_749 rfl ?_
  refine l_iload dL_law_750 rfl ?_
  refine l_iconst (v := 2) dL_law_752 (by decide) ?_
  refine l_iadd dL_law_753 ?_
  refine l_sld dL_law_754 hin2 ?_
  refine l_aload_n dL_law_755 rfl ?_
  refine l_iload dL_law_756 rfl ?_
  refine l_iconst (v := 3) dL_law_758 (by decide) ?_
  refine l_iadd dL_law_759 ?_
  refine l_sld dL_law_760 hin3 ?_
  refine cl_L_88 dL_law_761 hq (Nat.le_of_ble_eq_true rfl) (LCi_go (P := fun r h' => LE g uL 764 [.ref 900, .ref 0, .ref 11, .ref 61, .int i, .retAddr 0, .retAddr 0] (.int r :: []) h' Q) ?_ (fun _ _ q => q))
  refine k_X10_stake (gx g (i + 1).toNatClampNeg) (gx g (i + 2).toNatClampNeg) (gx g (i + 3).toNatClampNeg) hJ (RH_pc he.2.2.2) (fun r1 h1 hJ1 s1 => ?_)
  refine l_pop dL_law_764 rfl ?_
  refine l_aload_n dL_law_765 rfl ?_
  refine l_aload_n dL_law_766 rfl ?_
  refine l_iload dL_law_767 rfl ?_
  refine l_iconst (v := 1) dL_law_769 (by decide) ?_
  refine l_iadd dL_law_770 ?_
  refine l_sld dL_law_771 hin1 ?_
  refine l_aload_n dL_law_772 rfl ?_
  refine l_iload dL_law_773 rfl ?_
  refine l_iconst (v := 2) dL_law_775 (by decide) ?_
  refine l_iadd dL_law_776 ?_
  refine l_sld dL_law_777 hin2 ?_
  refine l_aload_n dL_law_778 rfl ?_
  refine l_iload dL_law_779 rfl ?_
  refine l_iconst (v := 3) dL_law_781 (by decide) ?_
  refine l_iadd dL_law_782 ?_
  refine l_sld dL_law_783 hin3 ?_
  refine cl_L_92 dL_law_784 hq (Nat.le_of_ble_eq_true rfl) (LCi_go (P := fun r h' => LE g uL 787 [.ref 900, .ref 0, .ref 11, .ref 61, .int i, .retAddr 0, .retAddr 0] (.int r :: []) h' Q) ?_ (fun _ _ q => q))
  refine k_X11_stake (gx g (i + 1).toNatClampNeg) (gx g (i + 2).toNatClampNeg) (gx g (i + 3).toNatClampNeg) hJ1 (PR_lr he.2.2.2 s1.2.1) (fun r2 h2 hJ2 s2 => ?_)
  refine l_pop dL_law_787 rfl ?_
  refine l_goto 1583 dL_law_788 (by decide) ?_
  exact K h2 hJ2 (stake_RR hJ hJ1 he s1 s2)
