set_option maxHeartbeats 4000000 in
set_option maxRecDepth 100000 in
theorem L_force {l : Launch} {D : va_G} {cI cJ cZ : ClassId} {A : Nat → Prop} {rT rL rM scr Ls : Nat} {xs : Nat → Int32} {G : Nat → Nat → va_W → LL → Nat → List Value → Prop} (C : GB l D (tyT cI cJ cZ) A (FLw cI rT rL rM scr Ls xs A) room_1 cL_law 4 RL wsL_law false false G) {a b : Nat → Nat} {hA nA : Nat} {gr li st sp : Nat → Int32} {n m : Nat} {nu : Nat → Int32} {ev od : Nat → Int64} {fp ti : Nat → Int32} {wc : Nat → Int64} {wu : Int32} {sc pv : Nat → Int64} {su : Int32} {sd : Nat → Int32} {t : Nat} {lea : Nat → Int32} {pa : Int32} {pt pp : Nat → Int32} {su2 : Int32} {sh tt : Nat → Int32} (I : LWI a hA nA gr li st sp n m nu fp ti wc wu sc pv su sd t su2 sh tt) {i : Nat} (hi : i + 4 ≤ Ls) (hLs : Ls ≤ 2048) (k : ∀ (hA nA : Nat) (gr li st sp : Nat → Int32) (n m : Nat) (nu : Nat → Int32) (ev od : Nat → Int64) (fp ti : Nat → Int32) (wc : Nat → Int64) (wu : Int32) (sc pv : Nat → Int64) (su : Int32) (sd : Nat → Int32) (t : Nat) (lea : Nat → Int32) (pa : Int32) (pt pp : Nat → Int32) (su2 : Int32) (sh tt : Nat → Int32), LWI a hA nA gr li st sp n m nu fp ti wc wu sc pv su sd t su2 sh tt → G 31 165904 (wC cI cJ cZ a hA nA gr li st sp (nI n) (nI m) nu ev od fp ti wc wu sc pv su sd (nI t) ++ wM cI cJ cZ b (nI n) gr li st nu (nI t) sd lea pa pt pp su2 sh tt) [(0, .ref scr), (1, .ref (a 0)), (2, .ref (b 0)), (3, .int (nI i))] 907 []) : G 31 165904 (wC cI cJ cZ a hA nA gr li st sp (nI n) (nI m) nu ev od fp ti wc wu sc pv su sd (nI t) ++ wM cI cJ cZ b (nI n) gr li st nu (nI t) sd lea pa pt pp su2 sh tt) [(0, .ref scr), (1, .ref (a 0)), (2, .ref (b 0)), (3, .int (nI i))] 360 [] := by
  obtain ⟨hL, hT, hp, hW, hS, ht, hs, hM⟩ := I
  have hn := hL.2.1
  have hn1 := hL.1
  have hst := hL.2.2.1
  have hsu := hM
  refine g_aload_n C 1 dL_law_360 rfl rfl rfl (q := 361) ?_
  refine g_aload_n C 0 dL_law_361 rfl rfl rfl (q := 362) ?_
  refine g_iload_n C 3 dL_law_362 rfl rfl rfl (q := 363) ?_
  refine g_iconst C (nI 1) dL_law_363 (by decide) (q := 364) rfl ?_
  refine g_iadd C dL_law_364 (q := 365) rfl ?_
  refine g_eqi C (y := nI (i + 1)) (nI_add i 1) ?_
  refine g_sld C (fun s h => h.2.2) (vp_in_nI (by omega) (by omega)) dL_law_365 (q := 366) rfl ?_
  refine g_eqi C (y := xs (i + 1)) (by rw [nI_clamp (by omega)]) ?_
  refine g_aload_n C 0 dL_law_366 rfl rfl rfl (q := 367) ?_
  refine g_iload_n C 3 dL_law_367 rfl rfl rfl (q := 368) ?_
  refine g_iconst C (nI 2) dL_law_368 (by decide) (q := 369) rfl ?_
  refine g_iadd C dL_law_369 (q := 370) rfl ?_
  refine g_eqi C (y := nI (i + 2)) (nI_add i 2) ?_
  refine g_sld C (fun s h => h.2.2) (vp_in_nI (by omega) (by omega)) dL_law_370 (q := 371) rfl ?_
  refine g_eqi C (y := xs (i + 2)) (by rw [nI_clamp (by omega)]) ?_
  refine g_aload_n C 0 dL_law_371 rfl rfl rfl (q := 372) ?_
  refine g_iload_n C 3 dL_law_372 rfl rfl rfl (q := 373) ?_
  refine g_iconst C (nI 3) dL_law_373 (by decide) (q := 374) rfl ?_
  refine g_iadd C dL_law_374 (q := 375) rfl ?_
  refine g_eqi C (y := nI (i + 3)) (nI_add i 3) ?_
  refine g_sld C (fun s h => h.2.2) (vp_in_nI (by omega) (by omega)) dL_law_375 (q := 376) rfl ?_
  refine g_eqi C (y := xs (i + 3)) (by rw [nI_clamp (by omega)]) ?_
  refine gcV_siP C (n := 3) (As := [.int (xs (i + 1)), .int (xs (i + 2)), .int (xs (i + 3))]) (st := []) 0 (wc := wC cI cJ cZ a hA nA gr li st sp (nI n) (nI m) nu ev od fp ti wc wu sc pv su sd (nI t)) (wr := wM cI cJ cZ b (nI n) gr li st nu (nI t) sd lea pa pt pp su2 sh tt) rfl (wC_in hp) (wC_of hp) dL_law_376 rfl rfl gL_law_X6_force (c_X6_force l D cI cJ cZ a hA nA gr li st sp n m nu ev od fp ti wc wu sc pv su sd t (xs (i + 1)) (xs (i + 2)) (xs (i + 3)) (by first | assumption | omega)) rfl rfl rfl (by decide +kernel) ⟨Nat.le_of_ble_eq_true rfl, Nat.le_of_ble_eq_true rfl⟩ rfl rfl (Nat.le_of_ble_eq_true rfl) FT_b (fun _ _ _ _ _ _ _ _ _ => trivial) ⟨Nat.le_of_ble_eq_true rfl, Nat.le_of_ble_eq_true rfl⟩ (q := 379) rfl (fun r_376 h_376 => ?_)
  show G 31 165904 (wC cI cJ cZ a hA nA gr li st sp (nI n) (nI m) nu ev od fp ti wc wu sc pv su sd (nI t) ++ wM cI cJ cZ b (nI n) gr li st nu (nI t) sd lea pa pt pp su2 sh tt) [(0, .ref scr), (1, .ref (a 0)), (2, .ref (b 0)), (3, .int (nI i))] 379 [.int r_376]
  refine g_aload_n C 2 dL_law_379 rfl rfl rfl (q := 380) ?_
  refine g_aload_n C 0 dL_law_380 rfl rfl rfl (q := 381) ?_
  refine g_iload_n C 3 dL_law_381 rfl rfl rfl (q := 382) ?_
  refine g_iconst C (nI 1) dL_law_382 (by decide) (q := 383) rfl ?_
  refine g_iadd C dL_law_383 (q := 384) rfl ?_
  refine g_eqi C (y := nI (i + 1)) (nI_add i 1) ?_
  refine g_sld C (fun s h => h.2.2) (vp_in_nI (by omega) (by omega)) dL_law_384 (q := 385) rfl ?_
  refine g_eqi C (y := xs (i + 1)) (by rw [nI_clamp (by omega)]) ?_
  refine g_aload_n C 0 dL_law_385 rfl rfl rfl (q := 386) ?_
  refine g_iload_n C 3 dL_law_386 rfl rfl rfl (q := 387) ?_
  refine g_iconst C (nI 2) dL_law_387 (by decide) (q := 388) rfl ?_
  refine g_iadd C dL_law_388 (q := 389) rfl ?_
  refine g_eqi C (y := nI (i + 2)) (nI_add i 2) ?_
  refine g_sld C (fun s h => h.2.2) (vp_in_nI (by omega) (by omega)) dL_law_389 (q := 390) rfl ?_
  refine g_eqi C (y := xs (i + 2)) (by rw [nI_clamp (by omega)]) ?_
  refine g_aload_n C 0 dL_law_390 rfl rfl rfl (q := 391) ?_
  refine g_iload_n C 3 dL_law_391 rfl rfl rfl (q := 392) ?_
  refine g_iconst C (nI 3) dL_law_392 (by decide) (q := 393) rfl ?_
  refine g_iadd C dL_law_393 (q := 394) rfl ?_
  refine g_eqi C (y := nI (i + 3)) (nI_add i 3) ?_
  refine g_sld C (fun s h => h.2.2) (vp_in_nI (by omega) (by omega)) dL_law_394 (q := 395) rfl ?_
  refine g_eqi C (y := xs (i + 3)) (by rw [nI_clamp (by omega)]) ?_
  refine gcV_siS C (n := 3) (As := [.int (xs (i + 1)), .int (xs (i + 2)), .int (xs (i + 3))]) (st := [.int r_376]) 0 (wc := wM cI cJ cZ b (nI n) gr li st nu (nI t) sd lea pa pt pp su2 sh tt) (wr := wC cI cJ cZ a hA nA gr li st sp (nI n) (nI m) nu ev od fp ti wc wu sc pv su sd (nI t)) rfl wM_in wM_of dL_law_395 rfl rfl gL_law_X7_force (c_X7_force l D cI cJ cZ b n gr li st nu t sd lea pa pt pp su2 sh tt (xs (i + 1)) (xs (i + 2)) (xs (i + 3)) (by first | assumption | omega) (by first | assumption | omega)) rfl rfl rfl (by decide +kernel) ⟨Nat.le_of_ble_eq_true rfl, Nat.le_of_ble_eq_true rfl⟩ rfl rfl (Nat.le_of_ble_eq_true rfl) FT_b (fun _ _ _ _ _ _ _ _ _ => trivial) ⟨Nat.le_of_ble_eq_true rfl, Nat.le_of_ble_eq_true rfl⟩ (q := 398) rfl (fun r_395 h_395 => ?_)
  show G 31 165904 (wC cI cJ cZ a hA nA gr li st sp (nI n) (nI m) nu ev od fp ti wc wu sc pv su sd (nI t) ++ wM cI cJ cZ b (nI n) gr li st nu (nI t) sd lea pa pt pp su2 sh tt) [(0, .ref scr), (1, .ref (a 0)), (2, .ref (b 0)), (3, .int (nI i))] 398 [.int r_395, .int r_376]
  refine g_icmp_eq C (t := 907) dL_law_398 (by decide) (q := 401) rfl (fun c_398 => ?_) (fun c_398 => absurd (h_376.trans h_395.symm) c_398)
  exact k hA nA gr li st sp n m nu ev od fp ti wc wu sc pv su sd t lea pa pt pp su2 sh tt ⟨hL, hT, hp, hW, hS, ht, hs, hM⟩
set_option maxHeartbeats 4000000 in
set_option maxRecDepth 100000 in
theorem L_fault {l : Launch} {D : va_G} {cI cJ cZ : ClassId} {A : Nat → Prop} {rT rL rM scr Ls : Nat} {xs : Nat → Int32} {G : Nat → Nat → va_W → LL → Nat → List Value → Prop} (C : GB l D (tyT cI cJ cZ) A (FLw cI rT rL rM scr Ls xs A) room_1 cL_law 4 RL wsL_law false false G) {a b : Nat → Nat} {hA nA : Nat} {gr li st sp : Nat → Int32} {n m : Nat} {nu : Nat → Int32} {ev od : Nat → Int64} {fp ti : Nat → Int32} {wc : Nat → Int64} {wu : Int32} {sc pv : Nat → Int64} {su : Int32} {sd : Nat → Int32} {t : Nat} {lea : Nat → Int32} {pa : Int32} {pt pp : Nat → Int32} {su2 : Int32} {sh tt : Nat → Int32} (I : LWI a hA nA gr li st sp n m nu fp ti wc wu sc pv su sd t su2 sh tt) {i : Nat} (hi : i + 4 ≤ Ls) (hLs : Ls ≤ 2048) (k : ∀ (hA nA : Nat) (gr li st sp : Nat → Int32) (n m : Nat) (nu : Nat → Int32) (ev od : Nat → Int64) (fp ti : Nat → Int32) (wc : Nat → Int64) (wu : Int32) (sc pv : Nat → Int64) (su : Int32) (sd : Nat → Int32) (t : Nat) (lea : Nat → Int32) (pa : Int32) (pt pp : Nat → Int32) (su2 : Int32) (sh tt : Nat → Int32), LWI a hA nA gr li st sp n m nu fp ti wc wu sc pv su sd t su2 sh tt → G 31 165904 (wC cI cJ cZ a hA nA gr li st sp (nI n) (nI m) nu ev od fp ti wc wu sc pv su sd (nI t) ++ wM cI cJ cZ b (nI n) gr li st nu (nI t) sd lea pa pt pp su2 sh tt) [(0, .ref scr), (1, .ref (a 0)), (2, .ref (b 0)), (3, .int (nI i))] 907 []) : G 31 165904 (wC cI cJ cZ a hA nA gr li st sp (nI n) (nI m) nu ev od fp ti wc wu sc pv su sd (nI t) ++ wM cI cJ cZ b (nI n) gr li st nu (nI t) sd lea pa pt pp su2 sh tt) [(0, .ref scr), (1, .ref (a 0)), (2, .ref (b 0)), (3, .int (nI i))] 403 [] := by
  obtain ⟨hL, hT, hp, hW, hS, ht, hs, hM⟩ := I
  have hn := hL.2.1
  have hn1 := hL.1
  have hst := hL.2.2.1
  have hsu := hM
  refine g_aload_n C 1 dL_law_403 rfl rfl rfl (q := 404) ?_
  refine g_aload_n C 0 dL_law_404 rfl rfl rfl (q := 405) ?_
  refine g_iload_n C 3 dL_law_405 rfl rfl rfl (q := 406) ?_
  refine g_iconst C (nI 1) dL_law_406 (by decide) (q := 407) rfl ?_
  refine g_iadd C dL_law_407 (q := 408) rfl ?_
  refine g_eqi C (y := nI (i + 1)) (nI_add i 1) ?_
  refine g_sld C (fun s h => h.2.2) (vp_in_nI (by omega) (by omega)) dL_law_408 (q := 409) rfl ?_
  refine g_eqi C (y := xs (i + 1)) (by rw [nI_clamp (by omega)]) ?_
  refine g_aload_n C 0 dL_law_409 rfl rfl rfl (q := 410) ?_
  refine g_iload_n C 3 dL_law_410 rfl rfl rfl (q := 411) ?_
  refine g_iconst C (nI 2) dL_law_411 (by decide) (q := 412) rfl ?_
  refine g_iadd C dL_law_412 (q := 413) rfl ?_
  refine g_eqi C (y := nI (i + 2)) (nI_add i 2) ?_
  refine g_sld C (fun s h => h.2.2) (vp_in_nI (by omega) (by omega)) dL_law_413 (q := 414) rfl ?_
  refine g_eqi C (y := xs (i + 2)) (by rw [nI_clamp (by omega)]) ?_
  refine g_aload_n C 0 dL_law_414 rfl rfl rfl (q := 415) ?_
  refine g_iload_n C 3 dL_law_415 rfl rfl rfl (q := 416) ?_
  refine g_iconst C (nI 3) dL_law_416 (by decide) (q := 417) rfl ?_
  refine g_iadd C dL_law_417 (q := 418) rfl ?_
  refine g_eqi C (y := nI (i + 3)) (nI_add i 3) ?_
  refine g_sld C (fun s h => h.2.2) (vp_in_nI (by omega) (by omega)) dL_law_418 (q := 419) rfl ?_
  refine g_eqi C (y := xs (i + 3)) (by rw [nI_clamp (by omega)]) ?_
  refine gcV_siP C (n := 3) (As := [.int (xs (i + 1)), .int (xs (i + 2)), .int (xs (i + 3))]) (st := []) 0 (wc := wC cI cJ cZ a hA nA gr li st sp (nI n) (nI m) nu ev od fp ti wc wu sc pv su sd (nI t)) (wr := wM cI cJ cZ b (nI n) gr li st nu (nI t) sd lea pa pt pp su2 sh tt) rfl (wC_in hp) (wC_of hp) dL_law_419 rfl rfl gL_law_X6_fault (c_X6_fault l D cI cJ cZ a hA nA gr li st sp n m nu ev od fp ti wc wu sc pv su sd t (xs (i + 1)) (xs (i + 2)) (xs (i + 3)) (by first | assumption | omega)) rfl rfl rfl (by decide +kernel) ⟨Nat.le_of_ble_eq_true rfl, Nat.le_of_ble_eq_true rfl⟩ rfl rfl (Nat.le_of_ble_eq_true rfl) FT_b (fun _ _ _ _ _ _ _ _ _ => trivial) ⟨Nat.le_of_ble_eq_true rfl, Nat.le_of_ble_eq_true rfl⟩ (q := 422) rfl (fun r_419 h_419 => ?_)
  show G 31 165904 (wC cI cJ cZ a hA nA gr li st sp (nI n) (nI m) nu ev od fp ti wc wu sc pv su sd (nI t) ++ wM cI cJ cZ b (nI n) gr li st nu (nI t) sd lea pa pt pp su2 sh tt) [(0, .ref scr), (1, .ref (a 0)), (2, .ref (b 0)), (3, .int (nI i))] 422 [.int r_419]
  refine g_aload_n C 2 dL_law_422 rfl rfl rfl (q := 423) ?_
  refine g_aload_n C 0 dL_law_423 rfl rfl rfl (q := 424) ?_
  refine g_iload_n C 3 dL_law_424 rfl rfl rfl (q := 425) ?_
  refine g_iconst C (nI 1) dL_law_425 (by decide) (q := 426) rfl ?_
  refine g_iadd C dL_law_426 (q := 427) rfl ?_
  refine g_eqi C (y := nI (i + 1)) (nI_add i 1) ?_
  refine g_sld C (fun s h => h.2.2) (vp_in_nI (by omega) (by omega)) dL_law_427 (q := 428) rfl ?_
  refine g_eqi C (y := xs (i + 1)) (by rw [nI_clamp (by omega)]) ?_
  refine g_aload_n C 0 dL_law_428 rfl rfl rfl (q := 429) ?_
  refine g_iload_n C 3 dL_law_429 rfl rfl rfl (q := 430) ?_
  refine g_iconst C (nI 2) dL_law_430 (by decide) (q := 431) rfl ?_
  refine g_iadd C dL_law_431 (q := 432) rfl ?_
  refine g_eqi C (y := nI (i + 2)) (nI_add i 2) ?_
  refine g_sld C (fun s h => h.2.2) (vp_in_nI (by omega) (by omega)) dL_law_432 (q := 433) rfl ?_
  refine g_eqi C (y := xs (i + 2)) (by rw [nI_clamp (by omega)]) ?_
  refine g_aload_n C 0 dL_law_433 rfl rfl rfl (q := 434) ?_
  refine g_iload_n C 3 dL_law_434 rfl rfl rfl (q := 435) ?_
  refine g_iconst C (nI 3) dL_law_435 (by decide) (q := 436) rfl ?_
  refine g_iadd C dL_law_436 (q := 437) rfl ?_
  refine g_eqi C (y := nI (i + 3)) (nI_add i 3) ?_
  refine g_sld C (fun s h => h.2.2) (vp_in_nI (by omega) (by omega)) dL_law_437 (q := 438) rfl ?_
  refine g_eqi C (y := xs (i + 3)) (by rw [nI_clamp (by omega)]) ?_
  refine gcV_siS C (n := 3) (As := [.int (xs (i + 1)), .int (xs (i + 2)), .int (xs (i + 3))]) (st := [.int r_419]) 0 (wc := wM cI cJ cZ b (nI n) gr li st nu (nI t) sd lea pa pt pp su2 sh tt) (wr := wC cI cJ cZ a hA nA gr li st sp (nI n) (nI m) nu ev od fp ti wc wu sc pv su sd (nI t)) rfl wM_in wM_of dL_law_438 rfl rfl gL_law_X7_fault (c_X7_fault l D cI cJ cZ b n gr li st nu t sd lea pa pt pp su2 sh tt (xs (i + 1)) (xs (i + 2)) (xs (i + 3)) (by first | assumption | omega) (by first | assumption | omega)) rfl rfl rfl (by decide +kernel) ⟨Nat.le_of_ble_eq_true rfl, Nat.le_of_ble_eq_true rfl⟩ rfl rfl (Nat.le_of_ble_eq_true rfl) FT_b (fun _ _ _ _ _ _ _ _ _ => trivial) ⟨Nat.le_of_ble_eq_true rfl, Nat.le_of_ble_eq_true rfl⟩ (q := 441) rfl (fun r_438 h_438 => ?_)
  show G 31 165904 (wC cI cJ cZ a hA nA gr li st sp (nI n) (nI m) nu ev od fp ti wc wu sc pv su sd (nI t) ++ wM cI cJ cZ b (nI n) gr li st nu (nI t) sd lea pa pt pp su2 sh tt) [(0, .ref scr), (1, .ref (a 0)), (2, .ref (b 0)), (3, .int (nI i))] 441 [.int r_438, .int r_419]
  refine g_icmp_eq C (t := 907) dL_law_441 (by decide) (q := 444) rfl (fun c_441 => ?_) (fun c_441 => absurd (h_419.trans h_438.symm) c_441)
  exact k hA nA gr li st sp n m nu ev od fp ti wc wu sc pv su sd t lea pa pt pp su2 sh tt ⟨hL, hT, hp, hW, hS, ht, hs, hM⟩
set_option maxHeartbeats 4000000 in
set_option maxRecDepth 100000 in
theorem L_time {l : Launch} {D : va_G} {cI cJ cZ : ClassId} {A : Nat → Prop} {rT rL rM scr Ls : Nat} {xs : Nat → Int32} {G : Nat → Nat → va_W → LL → Nat → List Value → Prop} (C : GB l D (tyT cI cJ cZ) A (FLw cI rT rL rM scr Ls xs A) room_1 cL_law 4 RL wsL_law false false G) {a b : Nat → Nat} {hA nA : Nat} {gr li st sp : Nat → Int32} {n m : Nat} {nu : Nat → Int32} {ev od : Nat → Int64} {fp ti : Nat → Int32} {wc : Nat → Int64} {wu : Int32} {sc pv : Nat → Int64} {su : Int32} {sd : Nat → Int32} {t : Nat} {lea : Nat → Int32} {pa : Int32} {pt pp : Nat → Int32} {su2 : Int32} {sh tt : Nat → Int32} (I : LWI a hA nA gr li st sp n m nu fp ti wc wu sc pv su sd t su2 sh tt) {i : Nat} (hi : i + 4 ≤ Ls) (hLs : Ls ≤ 2048) (k : ∀ (hA nA : Nat) (gr li st sp : Nat → Int32) (n m : Nat) (nu : Nat → Int32) (ev od : Nat → Int64) (fp ti : Nat → Int32) (wc : Nat → Int64) (wu : Int32) (sc pv : Nat → Int64) (su : Int32) (sd : Nat → Int32) (t : Nat) (lea : Nat → Int32) (pa : Int32) (pt pp : Nat → Int32) (su2 : Int32) (sh tt : Nat → Int32), LWI a hA nA gr li st sp n m nu fp ti wc wu sc pv su sd t su2 sh tt → G 31 165904 (wC cI cJ cZ a hA nA gr li st sp (nI n) (nI m) nu ev od fp ti wc wu sc pv su sd (nI t) ++ wM cI cJ cZ b (nI n) gr li st nu (nI t) sd lea pa pt pp su2 sh tt) [(0, .ref scr), (1, .ref (a 0)), (2, .ref (b 0)), (3, .int (nI i))] 907 []) : G 31 165904 (wC cI cJ cZ a hA nA gr li st sp (nI n) (nI m) nu ev od fp ti wc wu sc pv su sd (nI t) ++ wM cI cJ cZ b (nI n) gr li st nu (nI t) sd lea pa pt pp su2 sh tt) [(0, .ref scr), (1, .ref (a 0)), (2, .ref (b 0)), (3, .int (nI i))] 446 [] := by
  obtain ⟨hL, hT, hp, hW, hS, ht, hs, hM⟩ := I
  have hn := hL.2.1
  have hn1 := hL.1
  have hst := hL.2.2.1
  have hsu := hM
  refine g_aload_n C 1 dL_law_446 rfl rfl rfl (q := 447) ?_
  refine g_aload_n C 0 dL_law_447 rfl rfl rfl (q := 448) ?_
  refine g_iload_n C 3 dL_law_448 rfl rfl rfl (q := 449) ?_
  refine g_iconst C (nI 1) dL_law_449 (by decide) (q := 450) rfl ?_
  refine g_iadd C dL_law_450 (q := 451) rfl ?_
  refine g_eqi C (y := nI (i + 1)) (nI_add i 1) ?_
  refine g_sld C (fun s h => h.2.2) (vp_in_nI (by omega) (by omega)) dL_law_451 (q := 452) rfl ?_
  refine g_eqi C (y := xs (i + 1)) (by rw [nI_clamp (by omega)]) ?_
  refine g_aload_n C 0 dL_law_452 rfl rfl rfl (q := 453) ?_
  refine g_iload_n C 3 dL_law_453 rfl rfl rfl (q := 454) ?_
  refine g_iconst C (nI 2) dL_law_454 (by decide) (q := 455) rfl ?_
  refine g_iadd C dL_law_455 (q := 456) rfl ?_
  refine g_eqi C (y := nI (i + 2)) (nI_add i 2) ?_
  refine g_sld C (fun s h => h.2.2) (vp_in_nI (by omega) (by omega)) dL_law_456 (q := 457) rfl ?_
  refine g_eqi C (y := xs (i + 2)) (by rw [nI_clamp (by omega)]) ?_
  refine g_aload_n C 0 dL_law_457 rfl rfl rfl (q := 458) ?_
  refine g_iload_n C 3 dL_law_458 rfl rfl rfl (q := 459) ?_
  refine g_iconst C (nI 3) dL_law_459 (by decide) (q := 460) rfl ?_
  refine g_iadd C dL_law_460 (q := 461) rfl ?_
  refine g_eqi C (y := nI (i + 3)) (nI_add i 3) ?_
  refine g_sld C (fun s h => h.2.2) (vp_in_nI (by omega) (by omega)) dL_law_461 (q := 462) rfl ?_
  refine g_eqi C (y := xs (i + 3)) (by rw [nI_clamp (by omega)]) ?_
  refine gcV_siP C (n := 3) (As := [.int (xs (i + 1)), .int (xs (i + 2)), .int (xs (i + 3))]) (st := []) 0 (wc := wC cI cJ cZ a hA nA gr li st sp (nI n) (nI m) nu ev od fp ti wc wu sc pv su sd (nI t)) (wr := wM cI cJ cZ b (nI n) gr li st nu (nI t) sd lea pa pt pp su2 sh tt) rfl (wC_in hp) (wC_of hp) dL_law_462 rfl rfl gL_law_X6_time (c_X6_time l D cI cJ cZ a hA nA gr li st sp n m nu ev od fp ti wc wu sc pv su sd t (xs (i + 1)) (xs (i + 2)) (xs (i + 3)) (by first | assumption | omega)) rfl rfl rfl (by decide +kernel) ⟨Nat.le_of_ble_eq_true rfl, Nat.le_of_ble_eq_true rfl⟩ rfl rfl (Nat.le_of_ble_eq_true rfl) FT_b (fun _ _ _ _ _ _ _ _ _ => trivial) ⟨Nat.le_of_ble_eq_true rfl, Nat.le_of_ble_eq_true rfl⟩ (q := 465) rfl (fun r_462 h_462 => ?_)
  show G 31 165904 (wC cI cJ cZ a hA nA gr li st sp (nI n) (nI m) nu ev od fp ti wc wu sc pv su sd (nI t) ++ wM cI cJ cZ b (nI n) gr li st nu (nI t) sd lea pa pt pp su2 sh tt) [(0, .ref scr), (1, .ref (a 0)), (2, .ref (b 0)), (3, .int (nI i))] 465 [.int r_462]
  refine g_aload_n C 2 dL_law_465 rfl rfl rfl (q := 466) ?_
  refine g_aload_n C 0 dL_law_466 rfl rfl rfl (q := 467) ?_
  refine g_iload_n C 3 dL_law_467 rfl rfl rfl (q := 468) ?_
  refine g_iconst C (nI 1) dL_law_468 (by decide) (q := 469) rfl ?_
  refine g_iadd C dL_law_469 (q := 470) rfl ?_
  refine g_eqi C (y := nI (i + 1)) (nI_add i 1) ?_
  refine g_sld C (fun s h => h.2.2) (vp_in_nI (by omega) (by omega)) dL_law_470 (q := 471) rfl ?_
  refine g_eqi C (y := xs (i + 1)) (by rw [nI_clamp (by omega)]) ?_
  refine g_aload_n C 0 dL_law_471 rfl rfl rfl (q := 472) ?_
  refine g_iload_n C 3 dL_law_472 rfl rfl rfl (q := 473) ?_
  refine g_iconst C (nI 2) dL_law_473 (by decide) (q := 474) rfl ?_
  refine g_iadd C dL_law_474 (q := 475) rfl ?_
  refine g_eqi C (y := nI (i + 2)) (nI_add i 2) ?_
  refine g_sld C (fun s h => h.2.2) (vp_in_nI (by omega) (by omega)) dL_law_475 (q := 476) rfl ?_
  refine g_eqi C (y := xs (i + 2)) (by rw [nI_clamp (by omega)]) ?_
  refine g_aload_n C 0 dL_law_476 rfl rfl rfl (q := 477) ?_
  refine g_iload_n C 3 dL_law_477 rfl rfl rfl (q := 478) ?_
  refine g_iconst C (nI 3) dL_law_478 (by decide) (q := 479) rfl ?_
  refine g_iadd C dL_law_479 (q := 480) rfl ?_
  refine g_eqi C (y := nI (i + 3)) (nI_add i 3) ?_
  refine g_sld C (fun s h => h.2.2) (vp_in_nI (by omega) (by omega)) dL_law_480 (q := 481) rfl ?_
  refine g_eqi C (y := xs (i + 3)) (by rw [nI_clamp (by omega)]) ?_
  refine gcV_siS C (n := 3) (As := [.int (xs (i + 1)), .int (xs (i + 2)), .int (xs (i + 3))]) (st := [.int r_462]) 0 (wc := wM cI cJ cZ b (nI n) gr li st nu (nI t) sd lea pa pt pp su2 sh tt) (wr := wC cI cJ cZ a hA nA gr li st sp (nI n) (nI m) nu ev od fp ti wc wu sc pv su sd (nI t)) rfl wM_in wM_of dL_law_481 rfl rfl gL_law_X7_time (c_X7_time l D cI cJ cZ b n gr li st nu t sd lea pa pt pp su2 sh tt (xs (i + 1)) (xs (i + 2)) (xs (i + 3)) (by first | assumption | omega) (by first | assumption | omega)) rfl rfl rfl (by decide +kernel) ⟨Nat.le_of_ble_eq_true rfl, Nat.le_of_ble_eq_true rfl⟩ rfl rfl (Nat.le_of_ble_eq_true rfl) FT_b (fun _ _ _ _ _ _ _ _ _ => trivial) ⟨Nat.le_of_ble_eq_true rfl, Nat.le_of_ble_eq_true rfl⟩ (q := 484) rfl (fun r_481 h_481 => ?_)
  show G 31 165904 (wC cI cJ cZ a hA nA gr li st sp (nI n) (nI m) nu ev od fp ti wc wu sc pv su sd (nI t) ++ wM cI cJ cZ b (nI n) gr li st nu (nI t) sd lea pa pt pp su2 sh tt) [(0, .ref scr), (1, .ref (a 0)), (2, .ref (b 0)), (3, .int (nI i))] 484 [.int r_481, .int r_462]
  refine g_icmp_eq C (t := 907) dL_law_484 (by decide) (q := 487) rfl (fun c_484 => ?_) (fun c_484 => absurd (h_462.trans h_481.symm) c_484)
  exact k hA nA gr li st sp n m nu ev od fp ti wc wu sc pv su sd t lea pa pt pp su2 sh tt ⟨hL, hT, hp, hW, hS, ht, hs, hM⟩
set_option maxHeartbeats 4000000 in
set_option maxRecDepth 100000 in
theorem L_power {l : Launch} {D : va_G} {cI cJ cZ : ClassId} {A : Nat → Prop} {rT rL rM scr Ls : Nat} {xs : Nat → Int32} {G : Nat → Nat → va_W → LL → Nat → List Value → Prop} (C : GB l D (tyT cI cJ cZ) A (FLw cI rT rL rM scr Ls xs A) room_1 cL_law 4 RL wsL_law false false G) {a b : Nat → Nat} {hA nA : Nat} {gr li st sp : Nat → Int32} {n m : Nat} {nu : Nat → Int32} {ev od : Nat → Int64} {fp ti : Nat → Int32} {wc : Nat → Int64} {wu : Int32} {sc pv : Nat → Int64} {su : Int32} {sd : Nat → Int32} {t : Nat} {lea : Nat → Int32} {pa : Int32} {pt pp : Nat → Int32} {su2 : Int32} {sh tt : Nat → Int32} (I : LWI a hA nA gr li st sp n m nu fp ti wc wu sc pv su sd t su2 sh tt) {i : Nat} (hi : i + 4 ≤ Ls) (hLs : Ls ≤ 2048) (k : ∀ (hA nA : Nat) (gr li st sp : Nat → Int32) (n m : Nat) (nu : Nat → Int32) (ev od : Nat → Int64) (fp ti : Nat → Int32) (wc : Nat → Int64) (wu : Int32) (sc pv : Nat → Int64) (su : Int32) (sd : Nat → Int32) (t : Nat) (lea : Nat → Int32) (pa : Int32) (pt pp : Nat → Int32) (su2 : Int32) (sh tt : Nat → Int32), LWI a hA nA gr li st sp n m nu fp ti wc wu sc pv su sd t su2 sh tt → G 31 165904 (wC cI cJ cZ a hA nA gr li st sp (nI n) (nI m) nu ev od fp ti wc wu sc pv su sd (nI t) ++ wM cI cJ cZ b (nI n) gr li st nu (nI t) sd lea pa pt pp su2 sh tt) [(0, .ref scr), (1, .ref (a 0)), (2, .ref (b 0)), (3, .int (nI i))] 907 []) : G 31 165904 (wC cI cJ cZ a hA nA gr li st sp (nI n) (nI m) nu ev od fp ti wc wu sc pv su sd (nI t) ++ wM cI cJ cZ b (nI n) gr li st nu (nI t) sd lea pa pt pp su2 sh tt) [(0, .ref scr), (1, .ref (a 0)), (2, .ref (b 0)), (3, .int (nI i))] 489 [] := by
  obtain ⟨hL, hT, hp, hW, hS, ht, hs, hM⟩ := I
  have hn := hL.2.1
  have hn1 := hL.1
  have hst := hL.2.2.1
  have hsu := hM
  refine g_aload_n C 1 dL_law_489 rfl rfl rfl (q := 490) ?_
  refine g_aload_n C 0 dL_law_490 rfl rfl rfl (q := 491) ?_
  refine g_iload_n C 3 dL_law_491 rfl rfl rfl (q := 492) ?_
  refine g_iconst C (nI 1) dL_law_492 (by decide) (q := 493) rfl ?_
  refine g_iadd C dL_law_493 (q := 494) rfl ?_
  refine g_eqi C (y := nI (i + 1)) (nI_add i 1) ?_
  refine g_sld C (fun s h => h.2.2) (vp_in_nI (by omega) (by omega)) dL_law_494 (q := 495) rfl ?_
  refine g_eqi C (y := xs (i + 1)) (by rw [nI_clamp (by omega)]) ?_
  refine g_aload_n C 0 dL_law_495 rfl rfl rfl (q := 496) ?_
  refine g_iload_n C 3 dL_law_496 rfl rfl rfl (q := 497) ?_
  refine g_iconst C (nI 2) dL_law_497 (by decide) (q := 498) rfl ?_
  refine g_iadd C dL_law_498 (q := 499) rfl ?_
  refine g_eqi C (y := nI (i + 2)) (nI_add i 2) ?_
  refine g_sld C (fun s h => h.2.2) (vp_in_nI (by omega) (by omega)) dL_law_499 (q := 500) rfl ?_
  refine g_eqi C (y := xs (i + 2)) (by rw [nI_clamp (by omega)]) ?_
  refine g_aload_n C 0 dL_law_500 rfl rfl rfl (q := 501) ?_
  refine g_iload_n C 3 dL_law_501 rfl rfl rfl (q := 502) ?_
  refine g_iconst C (nI 3) dL_law_502 (by decide) (q := 503) rfl ?_
  refine g_iadd C dL_law_503 (q := 504) rfl ?_
  refine g_eqi C (y := nI (i + 3)) (nI_add i 3) ?_
  refine g_sld C (fun s h => h.2.2) (vp_in_nI (by omega) (by omega)) dL_law_504 (q := 505) rfl ?_
  refine g_eqi C (y := xs (i + 3)) (by rw [nI_clamp (by omega)]) ?_
  refine gcV_siP C (n := 3) (As := [.int (xs (i + 1)), .int (xs (i + 2)), .int (xs (i + 3))]) (st := []) 0 (wc := wC cI cJ cZ a hA nA gr li st sp (nI n) (nI m) nu ev od fp ti wc wu sc pv su sd (nI t)) (wr := wM cI cJ cZ b (nI n) gr li st nu (nI t) sd lea pa pt pp su2 sh tt) rfl (wC_in hp) (wC_of hp) dL_law_505 rfl rfl gL_law_X6_power (c_X6_power l D cI cJ cZ a hA nA gr li st sp n m nu ev od fp ti wc wu sc pv su sd t (xs (i + 1)) (xs (i + 2)) (xs (i + 3)) (by first | assumption | omega)) rfl rfl rfl (by decide +kernel) ⟨Nat.le_of_ble_eq_true rfl, Nat.le_of_ble_eq_true rfl⟩ rfl rfl (Nat.le_of_ble_eq_true rfl) FT_b (fun _ _ _ _ _ _ _ _ _ => trivial) ⟨Nat.le_of_ble_eq_true rfl, Nat.le_of_ble_eq_true rfl⟩ (q := 508) rfl (fun r_505 h_505 => ?_)
  show G 31 165904 (wC cI cJ cZ a hA nA gr li st sp (nI n) (nI m) nu ev od fp ti wc wu sc pv su sd (nI t) ++ wM cI cJ cZ b (nI n) gr li st nu (nI t) sd lea pa pt pp su2 sh tt) [(0, .ref scr), (1, .ref (a 0)), (2, .ref (b 0)), (3, .int (nI i))] 508 [.int r_505]
  refine g_aload_n C 2 dL_law_508 rfl rfl rfl (q := 509) ?_
  refine g_aload_n C 0 dL_law_509 rfl rfl rfl (q := 510) ?_
  refine g_iload_n C 3 dL_law_510 rfl rfl rfl (q := 511) ?_
  refine g_iconst C (nI 1) dL_law_511 (by decide) (q := 512) rfl ?_
  refine g_iadd C dL_law_512 (q := 513) rfl ?_
  refine g_eqi C (y := nI (i + 1)) (nI_add i 1) ?_
  refine g_sld C (fun s h => h.2.2) (vp_in_nI (by omega) (by omega)) dL_law_513 (q := 514) rfl ?_
  refine g_eqi C (y := xs (i + 1)) (by rw [nI_clamp (by omega)]) ?_
  refine g_aload_n C 0 dL_law_514 rfl rfl rfl (q := 515) ?_
  refine g_iload_n C 3 dL_law_515 rfl rfl rfl (q := 516) ?_
  refine g_iconst C (nI 2) dL_law_516 (by decide) (q := 517) rfl ?_
  refine g_iadd C dL_law_517 (q := 518) rfl ?_
  refine g_eqi C (y := nI (i + 2)) (nI_add i 2) ?_
  refine g_sld C (fun s h => h.2.2) (vp_in_nI (by omega) (by omega)) dL_law_518 (q := 519) rfl ?_
  refine g_eqi C (y := xs (i + 2)) (by rw [nI_clamp (by omega)]) ?_
  refine g_aload_n C 0 dL_law_519 rfl rfl rfl (q := 520) ?_
  refine g_iload_n C 3 dL_law_520 rfl rfl rfl (q := 521) ?_
  refine g_iconst C (nI 3) dL_law_521 (by decide) (q := 522) rfl ?_
  refine g_iadd C dL_law_522 (q := 523) rfl ?_
  refine g_eqi C (y := nI (i + 3)) (nI_add i 3) ?_
  refine g_sld C (fun s h => h.2.2) (vp_in_nI (by omega) (by omega)) dL_law_523 (q := 524) rfl ?_
  refine g_eqi C (y := xs (i + 3)) (by rw [nI_clamp (by omega)]) ?_
  refine gcV_siS C (n := 3) (As := [.int (xs (i + 1)), .int (xs (i + 2)), .int (xs (i + 3))]) (st := [.int r_505]) 0 (wc := wM cI cJ cZ b (nI n) gr li st nu (nI t) sd lea pa pt pp su2 sh tt) (wr := wC cI cJ cZ a hA nA gr li st sp (nI n) (nI m) nu ev od fp ti wc wu sc pv su sd (nI t)) rfl wM_in wM_of dL_law_524 rfl rfl gL_law_X7_power (c_X7_power l D cI cJ cZ b n gr li st nu t sd lea pa pt pp su2 sh tt (xs (i + 1)) (xs (i + 2)) (xs (i + 3)) (by first | assumption | omega) (by first | assumption | omega)) rfl rfl rfl (by decide +kernel) ⟨Nat.le_of_ble_eq_true rfl, Nat.le_of_ble_eq_true rfl⟩ rfl rfl (Nat.le_of_ble_eq_true rfl) FT_b (fun _ _ _ _ _ _ _ _ _ => trivial) ⟨Nat.le_of_ble_eq_true rfl, Nat.le_of_ble_eq_true rfl⟩ (q := 527) rfl (fun r_524 h_524 => ?_)
  show G 31 165904 (wC cI cJ cZ a hA nA gr li st sp (nI n) (nI m) nu ev od fp ti wc wu sc pv su sd (nI t) ++ wM cI cJ cZ b (nI n) gr li st nu (nI t) sd lea pa pt pp su2 sh tt) [(0, .ref scr), (1, .ref (a 0)), (2, .ref (b 0)), (3, .int (nI i))] 527 [.int r_524, .int r_505]
  refine g_icmp_eq C (t := 907) dL_law_527 (by decide) (q := 530) rfl (fun c_527 => ?_) (fun c_527 => absurd (h_505.trans h_524.symm) c_527)
  exact k hA nA gr li st sp n m nu ev od fp ti wc wu sc pv su sd t lea pa pt pp su2 sh tt ⟨hL, hT, hp, hW, hS, ht, hs, hM⟩
set_option maxHeartbeats 4000000 in
set_option maxRecDepth 100000 in
theorem L_fastest {l : Launch} {D : va_G} {cI cJ cZ : ClassId} {A : Nat → Prop} {rT rL rM scr Ls : Nat} {xs : Nat → Int32} {G : Nat → Nat → va_W → LL → Nat → List Value → Prop} (C : GB l D (tyT cI cJ cZ) A (FLw cI rT rL rM scr Ls xs A) room_1 cL_law 4 RL wsL_law false false G) {a b : Nat → Nat} {hA nA : Nat} {gr li st sp : Nat → Int32} {n m : Nat} {nu : Nat → Int32} {ev od : Nat → Int64} {fp ti : Nat → Int32} {wc : Nat → Int64} {wu : Int32} {sc pv : Nat → Int64} {su : Int32} {sd : Nat → Int32} {t : Nat} {lea : Nat → Int32} {pa : Int32} {pt pp : Nat → Int32} {su2 : Int32} {sh tt : Nat → Int32} (I : LWI a hA nA gr li st sp n m nu fp ti wc wu sc pv su sd t su2 sh tt) {i : Nat} (hi : i + 4 ≤ Ls) (hLs : Ls ≤ 2048) (k : ∀ (hA nA : Nat) (gr li st sp : Nat → Int32) (n m : Nat) (nu : Nat → Int32) (ev od : Nat → Int64) (fp ti : Nat → Int32) (wc : Nat → Int64) (wu : Int32) (sc pv : Nat → Int64) (su : Int32) (sd : Nat → Int32) (t : Nat) (lea : Nat → Int32) (pa : Int32) (pt pp : Nat → Int32) (su2 : Int32) (sh tt : Nat → Int32), LWI a hA nA gr li st sp n m nu fp ti wc wu sc pv su sd t su2 sh tt → G 31 165904 (wC cI cJ cZ a hA nA gr li st sp (nI n) (nI m) nu ev od fp ti wc wu sc pv su sd (nI t) ++ wM cI cJ cZ b (nI n) gr li st nu (nI t) sd lea pa pt pp su2 sh tt) [(0, .ref scr), (1, .ref (a 0)), (2, .ref (b 0)), (3, .int (nI i))] 907 []) : G 31 165904 (wC cI cJ cZ a hA nA gr li st sp (nI n) (nI m) nu ev od fp ti wc wu sc pv su sd (nI t) ++ wM cI cJ cZ b (nI n) gr li st nu (nI t) sd lea pa pt pp su2 sh tt) [(0, .ref scr), (1, .ref (a 0)), (2, .ref (b 0)), (3, .int (nI i))] 532 [] := by
  obtain ⟨hL, hT, hp, hW, hS, ht, hs, hM⟩ := I
  have hn := hL.2.1
  have hn1 := hL.1
  have hst := hL.2.2.1
  have hsu := hM
  refine g_aload_n C 1 dL_law_532 rfl rfl rfl (q := 533) ?_
  refine g_aload_n C 0 dL_law_533 rfl rfl rfl (q := 534) ?_
  refine g_iload_n C 3 dL_law_534 rfl rfl rfl (q := 535) ?_
  refine g_iconst C (nI 1) dL_law_535 (by decide) (q := 536) rfl ?_
  refine g_iadd C dL_law_536 (q := 537) rfl ?_
  refine g_eqi C (y := nI (i + 1)) (nI_add i 1) ?_
  refine g_sld C (fun s h => h.2.2) (vp_in_nI (by omega) (by omega)) dL_law_537 (q := 538) rfl ?_
  refine g_eqi C (y := xs (i + 1)) (by rw [nI_clamp (by omega)]) ?_
  refine gcV_qiP C (n := 1) (As := [.int (xs (i + 1))]) (st := []) 0 (wc := wC cI cJ cZ a hA nA gr li st sp (nI n) (nI m) nu ev od fp ti wc wu sc pv su sd (nI t)) (wr := wM cI cJ cZ b (nI n) gr li st nu (nI t) sd lea pa pt pp su2 sh tt) rfl (wC_in hp) (wC_of hp) dL_law_538 rfl rfl gL_law_X6_fastest (c_X6_fastest l D cI cJ cZ a hA nA gr li st sp n m nu ev od fp ti wc wu sc pv su sd t (xs (i + 1)) (by first | assumption | omega) (by first | assumption | omega) (by first | assumption | omega) (by first | assumption | omega)) rfl rfl rfl (by decide +kernel) ⟨Nat.le_of_ble_eq_true rfl, Nat.le_of_ble_eq_true rfl⟩ rfl rfl (Nat.le_of_ble_eq_true rfl) FT_b (fun _ _ _ _ _ _ _ _ _ => trivial) ⟨Nat.le_of_ble_eq_true rfl, Nat.le_of_ble_eq_true rfl⟩ (q := 541) rfl (fun r_538 u_538 h_538 => ?_)
  obtain ⟨hA2, nA2, ev2, od2, fp2, ti2, wc2, wu2⟩ := u_538
  obtain ⟨e_c, hp2, hW2⟩ := h_538
  show G 31 165904 (wC cI cJ cZ a hA2 nA2 gr li st sp (nI n) (nI m) nu ev2 od2 fp2 ti2 wc2 wu2 sc pv su sd (nI t) ++ wM cI cJ cZ b (nI n) gr li st nu (nI t) sd lea pa pt pp su2 sh tt) [(0, .ref scr), (1, .ref (a 0)), (2, .ref (b 0)), (3, .int (nI i))] 541 [.int r_538]
  refine g_aload_n C 2 dL_law_541 rfl rfl rfl (q := 542) ?_
  refine g_aload_n C 0 dL_law_542 rfl rfl rfl (q := 543) ?_
  refine g_iload_n C 3 dL_law_543 rfl rfl rfl (q := 544) ?_
  refine g_iconst C (nI 1) dL_law_544 (by decide) (q := 545) rfl ?_
  refine g_iadd C dL_law_545 (q := 546) rfl ?_
  refine g_eqi C (y := nI (i + 1)) (nI_add i 1) ?_
  refine g_sld C (fun s h => h.2.2) (vp_in_nI (by omega) (by omega)) dL_law_546 (q := 547) rfl ?_
  refine g_eqi C (y := xs (i + 1)) (by rw [nI_clamp (by omega)]) ?_
  refine gcV_qiS C (n := 1) (As := [.int (xs (i + 1))]) (st := [.int r_538]) 0 (wc := wM cI cJ cZ b (nI n) gr li st nu (nI t) sd lea pa pt pp su2 sh tt) (wr := wC cI cJ cZ a hA2 nA2 gr li st sp (nI n) (nI m) nu ev2 od2 fp2 ti2 wc2 wu2 sc pv su sd (nI t)) rfl wM_in wM_of dL_law_547 rfl rfl gL_law_X7_fastest (c_X7_fastest l D cI cJ cZ b n gr li st nu t sd lea pa pt pp su2 sh tt (xs (i + 1)) sp m (by first | assumption | omega) (by first | assumption | omega)) rfl rfl rfl (by decide +kernel) ⟨Nat.le_of_ble_eq_true rfl, Nat.le_of_ble_eq_true rfl⟩ rfl rfl (Nat.le_of_ble_eq_true rfl) FT_b (fun _ _ _ _ _ _ _ _ _ => trivial) ⟨Nat.le_of_ble_eq_true rfl, Nat.le_of_ble_eq_true rfl⟩ (q := 550) rfl (fun r_547 u_547 h_547 => ?_)
  obtain ⟨lea3, ez⟩ : ∃ z, z = u_547 := ⟨_, rfl⟩
  subst ez
  have e_m := h_547
  show G 31 165904 (wC cI cJ cZ a hA2 nA2 gr li st sp (nI n) (nI m) nu ev2 od2 fp2 ti2 wc2 wu2 sc pv su sd (nI t) ++ wM cI cJ cZ b (nI n) gr li st nu (nI t) sd lea3 pa pt pp su2 sh tt) [(0, .ref scr), (1, .ref (a 0)), (2, .ref (b 0)), (3, .int (nI i))] 550 [.int r_547, .int r_538]
  refine g_icmp_eq C (t := 907) dL_law_550 (by decide) (q := 553) rfl (fun c_550 => ?_) (fun c_550 => absurd (e_c.trans e_m.symm) c_550)
  exact k hA2 nA2 gr li st sp n m nu ev2 od2 fp2 ti2 wc2 wu2 sc pv su sd t lea3 pa pt pp su2 sh tt ⟨hL, hT, hp2, hW2, hS, ht, hs, hM⟩
set_option maxHeartbeats 4000000 in
set_option maxRecDepth 100000 in
theorem L_best {l : Launch} {D : va_G} {cI cJ cZ : ClassId} {A : Nat → Prop} {rT rL rM scr Ls : Nat} {xs : Nat → Int32} {G : Nat → Nat → va_W → LL → Nat → List Value → Prop} (C : GB l D (tyT cI cJ cZ) A (FLw cI rT rL rM scr Ls xs A) room_1 cL_law 4 RL wsL_law false false G) {a b : Nat → Nat} {hA nA : Nat} {gr li st sp : Nat → Int32} {n m : Nat} {nu : Nat → Int32} {ev od : Nat → Int64} {fp ti : Nat → Int32} {wc : Nat → Int64} {wu : Int32} {sc pv : Nat → Int64} {su : Int32} {sd : Nat → Int32} {t : Nat} {lea : Nat → Int32} {pa : Int32} {pt pp : Nat → Int32} {su2 : Int32} {sh tt : Nat → Int32} (I : LWI a hA nA gr li st sp n m nu fp ti wc wu sc pv su sd t su2 sh tt) {i : Nat} (hi : i + 4 ≤ Ls) (hLs : Ls ≤ 2048) (k : ∀ (hA nA : Nat) (gr li st sp : Nat → Int32) (n m : Nat) (nu : Nat → Int32) (ev od : Nat → Int64) (fp ti : Nat → Int32) (wc : Nat → Int64) (wu : Int32) (sc pv : Nat → Int64) (su : Int32) (sd : Nat → Int32) (t : Nat) (lea : Nat → Int32) (pa : Int32) (pt pp : Nat → Int32) (su2 : Int32) (sh tt : Nat → Int32), LWI a hA nA gr li st sp n m nu fp ti wc wu sc pv su sd t su2 sh tt → G 31 165904 (wC cI cJ cZ a hA nA gr li st sp (nI n) (nI m) nu ev od fp ti wc wu sc pv su sd (nI t) ++ wM cI cJ cZ b (nI n) gr li st nu (nI t) sd lea pa pt pp su2 sh tt) [(0, .ref scr), (1, .ref (a 0)), (2, .ref (b 0)), (3, .int (nI i))] 907 []) : G 31 165904 (wC cI cJ cZ a hA nA gr li st sp (nI n) (nI m) nu ev od fp ti wc wu sc pv su sd (nI t) ++ wM cI cJ cZ b (nI n) gr li st nu (nI t) sd lea pa pt pp su2 sh tt) [(0, .ref scr), (1, .ref (a 0)), (2, .ref (b 0)), (3, .int (nI i))] 555 [] := by
  obtain ⟨hL, hT, hp, hW, hS, ht, hs, hM⟩ := I
  have hn := hL.2.1
  have hn1 := hL.1
  have hst := hL.2.2.1
  have hsu := hM
  refine g_aload_n C 1 dL_law_555 rfl rfl rfl (q := 556) ?_
  refine g_aload_n C 0 dL_law_556 rfl rfl rfl (q := 557) ?_
  refine g_iload_n C 3 dL_law_557 rfl rfl rfl (q := 558) ?_
  refine g_iconst C (nI 1) dL_law_558 (by decide) (q := 559) rfl ?_
  refine g_iadd C dL_law_559 (q := 560) rfl ?_
  refine g_eqi C (y := nI (i + 1)) (nI_add i 1) ?_
  refine g_sld C (fun s h => h.2.2) (vp_in_nI (by omega) (by omega)) dL_law_560 (q := 561) rfl ?_
  refine g_eqi C (y := xs (i + 1)) (by rw [nI_clamp (by omega)]) ?_
  refine g_aload_n C 0 dL_law_561 rfl rfl rfl (q := 562) ?_
  refine g_iload_n C 3 dL_law_562 rfl rfl rfl (q := 563) ?_
  refine g_iconst C (nI 2) dL_law_563 (by decide) (q := 564) rfl ?_
  refine g_iadd C dL_law_564 (q := 565) rfl ?_
  refine g_eqi C (y := nI (i + 2)) (nI_add i 2) ?_
  refine g_sld C (fun s h => h.2.2) (vp_in_nI (by omega) (by omega)) dL_law_565 (q := 566) rfl ?_
  refine g_eqi C (y := xs (i + 2)) (by rw [nI_clamp (by omega)]) ?_
  refine gcV_qiP C (n := 2) (As := [.int (xs (i + 1)), .int (xs (i + 2))]) (st := []) 0 (wc := wC cI cJ cZ a hA nA gr li st sp (nI n) (nI m) nu ev od fp ti wc wu sc pv su sd (nI t)) (wr := wM cI cJ cZ b (nI n) gr li st nu (nI t) sd lea pa pt pp su2 sh tt) rfl (wC_in hp) (wC_of hp) dL_law_566 rfl rfl gL_law_X6_best (c_X6_best l D cI cJ cZ a hA nA gr li st sp n m nu ev od fp ti wc wu sc pv su sd t (xs (i + 1)) (xs (i + 2)) (by first | assumption | omega) (by first | assumption | omega) (by first | assumption | omega) (by first | assumption | omega)) rfl rfl rfl (by decide +kernel) ⟨Nat.le_of_ble_eq_true rfl, Nat.le_of_ble_eq_true rfl⟩ rfl rfl (Nat.le_of_ble_eq_true rfl) FT_b (fun _ _ _ _ _ _ _ _ _ => trivial) ⟨Nat.le_of_ble_eq_true rfl, Nat.le_of_ble_eq_true rfl⟩ (q := 569) rfl (fun r_566 u_566 h_566 => ?_)
  obtain ⟨hA2, nA2, ev2, od2, fp2, ti2, wc2, wu2⟩ := u_566
  obtain ⟨e_c, hp2, hW2⟩ := h_566
  show G 31 165904 (wC cI cJ cZ a hA2 nA2 gr li st sp (nI n) (nI m) nu ev2 od2 fp2 ti2 wc2 wu2 sc pv su sd (nI t) ++ wM cI cJ cZ b (nI n) gr li st nu (nI t) sd lea pa pt pp su2 sh tt) [(0, .ref scr), (1, .ref (a 0)), (2, .ref (b 0)), (3, .int (nI i))] 569 [.int r_566]
  refine g_aload_n C 2 dL_law_569 rfl rfl rfl (q := 570) ?_
  refine g_aload_n C 0 dL_law_570 rfl rfl rfl (q := 571) ?_
  refine g_iload_n C 3 dL_law_571 rfl rfl rfl (q := 572) ?_
  refine g_iconst C (nI 1) dL_law_572 (by decide) (q := 573) rfl ?_
  refine g_iadd C dL_law_573 (q := 574) rfl ?_
  refine g_eqi C (y := nI (i + 1)) (nI_add i 1) ?_
  refine g_sld C (fun s h => h.2.2) (vp_in_nI (by omega) (by omega)) dL_law_574 (q := 575) rfl ?_
  refine g_eqi C (y := xs (i + 1)) (by rw [nI_clamp (by omega)]) ?_
  refine g_aload_n C 0 dL_law_575 rfl rfl rfl (q := 576) ?_
  refine g_iload_n C 3 dL_law_576 rfl rfl rfl (q := 577) ?_
  refine g_iconst C (nI 2) dL_law_577 (by decide) (q := 578) rfl ?_
  refine g_iadd C dL_law_578 (q := 579) rfl ?_
  refine g_eqi C (y := nI (i + 2)) (nI_add i 2) ?_
  refine g_sld C (fun s h => h.2.2) (vp_in_nI (by omega) (by omega)) dL_law_579 (q := 580) rfl ?_
  refine g_eqi C (y := xs (i + 2)) (by rw [nI_clamp (by omega)]) ?_
  refine gcV_qiS C (n := 2) (As := [.int (xs (i + 1)), .int (xs (i + 2))]) (st := [.int r_566]) 0 (wc := wM cI cJ cZ b (nI n) gr li st nu (nI t) sd lea pa pt pp su2 sh tt) (wr := wC cI cJ cZ a hA2 nA2 gr li st sp (nI n) (nI m) nu ev2 od2 fp2 ti2 wc2 wu2 sc pv su sd (nI t)) rfl wM_in wM_of dL_law_580 rfl rfl gL_law_X7_best (c_X7_best l D cI cJ cZ b n gr li st nu t sd lea pa pt pp su2 sh tt (xs (i + 1)) (xs (i + 2)) sp m (by first | assumption | omega) (by first | assumption | omega)) rfl rfl rfl (by decide +kernel) ⟨Nat.le_of_ble_eq_true rfl, Nat.le_of_ble_eq_true rfl⟩ rfl rfl (Nat.le_of_ble_eq_true rfl) FT_b (fun _ _ _ _ _ _ _ _ _ => trivial) ⟨Nat.le_of_ble_eq_true rfl, Nat.le_of_ble_eq_true rfl⟩ (q := 583) rfl (fun r_580 u_580 h_580 => ?_)
  obtain ⟨lea3, ez⟩ : ∃ z, z = u_580 := ⟨_, rfl⟩
  subst ez
  have e_m := h_580
  show G 31 165904 (wC cI cJ cZ a hA2 nA2 gr li st sp (nI n) (nI m) nu ev2 od2 fp2 ti2 wc2 wu2 sc pv su sd (nI t) ++ wM cI cJ cZ b (nI n) gr li st nu (nI t) sd lea3 pa pt pp su2 sh tt) [(0, .ref scr), (1, .ref (a 0)), (2, .ref (b 0)), (3, .int (nI i))] 583 [.int r_580, .int r_566]
  refine g_icmp_eq C (t := 907) dL_law_583 (by decide) (q := 586) rfl (fun c_583 => ?_) (fun c_583 => absurd (e_c.trans e_m.symm) c_583)
  exact k hA2 nA2 gr li st sp n m nu ev2 od2 fp2 ti2 wc2 wu2 sc pv su sd t lea3 pa pt pp su2 sh tt ⟨hL, hT, hp2, hW2, hS, ht, hs, hM⟩
