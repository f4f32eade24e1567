set_option maxHeartbeats 4000000 in
set_option maxRecDepth 100000 in
theorem law_8 {p : Program} {l : Launch} {e : Env} {s : State} {m : MethodId} {below : List Frame} {meth : Method} {c : Code} {D : va_G} {b L : Nat} {xs : Nat → Int32} (hL : L ≤ 2560) (C0 : lw_At p s m meth c b L xs) {ad bd : Nat → Nat} {cd ed : Nat → ClassId} (hK : va_K D vwCl (xt cd ++ yt ed) s) {i : Nat} (hi : i + 5 ≤ L) {ls : Array Slot} (hl : lv_has ls 4 [(0, .ref b), (1, .ref (ad 0)), (2, .ref (bd 0)), (3, .int (nI i))]) (kont : lw_K p l e s m below meth c D b ad bd cd ed ls 579) : lw_K p l e s m below meth c D b ad bd cd ed ls 408 := by
  obtain ⟨hx, hb, hr, hml, hown, hts0, hX, hbl, hlocks, hgv⟩ := C0
  have hts := fun w h => hts0 w (wsL_law_in w h)
  have hA : ∀ q : Nat, s.heap.size ≤ q → (fun q : Nat => s.heap.size ≤ q) q := fun _ h => h
  have hbA : ¬ (fun q : Nat => s.heap.size ≤ q) b := Nat.not_le.mpr hbl
  intro u w H locs hR hP hD hS
  refine lv_aload_n hx hb dL_law_408 rfl (lv_at hl 1 rfl) ?_
  refine lv_aload_n hx hb dL_law_409 rfl (lv_at hl 0 rfl) ?_
  refine lv_iload_n hx hb dL_law_410 rfl (lv_at hl 3 rfl) ?_
  refine lv_iconst (v := 1) hx hb dL_law_411 (by decide) ?_
  refine lv_iadd hx hb dL_law_412 ?_
  refine va_sld hx hb hX hbl hbA hS (sc_in 1 rfl (by omega) hL) dL_law_413 ?_
  have hPc := hP.sub (ws' := xw ad cd u) [0, 1, 2, 3, 4, 5] rfl
  have hKc := hK.sub (tys' := xt cd) [0, 1, 2, 3, 4] rfl
  refine vp_callSi (W.runV (As := [.int (xs (nI i + 1).toNatClampNeg)]) (rest := []) ⟨hx, hb, hml, hown, hts⟩ (xk_isThere l D ad cd u (xs (nI i + 1).toNatClampNeg)) (cwV 1 hts gL_law_X0_isThere rfl rfl rfl (by decide +kernel) ⟨Nat.le_of_ble_eq_true rfl, Nat.le_of_ble_eq_true rfl⟩) ⟨fun a U g mk q => ⟨q.1, q.2.1, va_K.moved (u := U) (U := U.calling g mk a) (Vm.Alike.refl U.vm) q.2.2⟩, va_recv hKc hPc (ci := 0) (q0 := 0) rfl rfl, fun U hU hW => ⟨rfl, by rw [hU]; exact hPc, va_K.moved hW.alike hKc⟩⟩ rfl rfl hl.1 rfl (lv_room (Nat.le_of_ble_eq_true rfl)) dL_law_414 ⟨Nat.le_of_ble_eq_true rfl, Nat.le_of_ble_eq_true rfl⟩) (fun rx hrx => ?_)
  refine lv_aload_n hx hb dL_law_417 rfl (lv_at hl 2 rfl) ?_
  refine lv_aload_n hx hb dL_law_418 rfl (lv_at hl 0 rfl) ?_
  refine lv_iload_n hx hb dL_law_419 rfl (lv_at hl 3 rfl) ?_
  refine lv_iconst (v := 1) hx hb dL_law_420 (by decide) ?_
  refine lv_iadd hx hb dL_law_421 ?_
  refine va_sld hx hb hX hbl hbA hS (sc_in 1 rfl (by omega) hL) dL_law_422 ?_
  have hPc := hP.sub (ws' := yw bd ed w) [6, 7, 8, 9, 10, 11] rfl
  have hKc := hK.sub (tys' := yt ed) [5, 6, 7, 8, 9] rfl
  refine vp_callSi (W.runV (As := [.int (xs (nI i + 1).toNatClampNeg)]) (rest := [.int rx]) ⟨hx, hb, hml, hown, hts⟩ (yk_isThere l D bd ed w (xs (nI i + 1).toNatClampNeg)) (cwV 1 hts gL_law_X1_isThere rfl rfl rfl (by decide +kernel) ⟨Nat.le_of_ble_eq_true rfl, Nat.le_of_ble_eq_true rfl⟩) ⟨fun a U g mk q => ⟨q.1, q.2.1, va_K.moved (u := U) (U := U.calling g mk a) (Vm.Alike.refl U.vm) q.2.2⟩, va_recv hKc hPc (ci := 1) (q0 := 0) rfl rfl, fun U hU hW => ⟨rfl, by rw [hU]; exact hPc, va_K.moved hW.alike hKc⟩⟩ rfl rfl hl.1 rfl (lv_room (Nat.le_of_ble_eq_true rfl)) dL_law_423 ⟨Nat.le_of_ble_eq_true rfl, Nat.le_of_ble_eq_true rfl⟩) (fun ry hry => ?_)
  have hst := there_eq hR (xs (nI i + 1).toNatClampNeg)
  subst hrx
  subst hry
  refine lv_icmp_eq (tgt := 579) hx hb dL_law_426 (by decide) (fun _ => kont u w H locs hR hP hD hS) (fun c9 => absurd hst c9)
set_option maxHeartbeats 4000000 in
set_option maxRecDepth 100000 in
theorem law_9 {p : Program} {l : Launch} {e : Env} {s : State} {m : MethodId} {below : List Frame} {meth : Method} {c : Code} {D : va_G} {b L : Nat} {xs : Nat → Int32} (hL : L ≤ 2560) (C0 : lw_At p s m meth c b L xs) {ad bd : Nat → Nat} {cd ed : Nat → ClassId} (hK : va_K D vwCl (xt cd ++ yt ed) s) {i : Nat} (hi : i + 5 ≤ L) {ls : Array Slot} (hl : lv_has ls 4 [(0, .ref b), (1, .ref (ad 0)), (2, .ref (bd 0)), (3, .int (nI i))]) (kont : lw_K p l e s m below meth c D b ad bd cd ed ls 579) : lw_K p l e s m below meth c D b ad bd cd ed ls 431 := by
  obtain ⟨hx, hb, hr, hml, hown, hts0, hX, hbl, hlocks, hgv⟩ := C0
  have hts := fun w h => hts0 w (wsL_law_in w h)
  have hA : ∀ q : Nat, s.heap.size ≤ q → (fun q : Nat => s.heap.size ≤ q) q := fun _ h => h
  have hbA : ¬ (fun q : Nat => s.heap.size ≤ q) b := Nat.not_le.mpr hbl
  intro u w H locs hR hP hD hS
  refine lv_aload_n hx hb dL_law_431 rfl (lv_at hl 1 rfl) ?_
  refine lv_aload_n hx hb dL_law_432 rfl (lv_at hl 0 rfl) ?_
  refine lv_iload_n hx hb dL_law_433 rfl (lv_at hl 3 rfl) ?_
  refine lv_iconst (v := 1) hx hb dL_law_434 (by decide) ?_
  refine lv_iadd hx hb dL_law_435 ?_
  refine va_sld hx hb hX hbl hbA hS (sc_in 1 rfl (by omega) hL) dL_law_436 ?_
  refine lv_aload_n hx hb dL_law_437 rfl (lv_at hl 0 rfl) ?_
  refine lv_iload_n hx hb dL_law_438 rfl (lv_at hl 3 rfl) ?_
  refine lv_iconst (v := 2) hx hb dL_law_439 (by decide) ?_
  refine lv_iadd hx hb dL_law_440 ?_
  refine va_sld hx hb hX hbl hbA hS (sc_in 2 rfl (by omega) hL) dL_law_441 ?_
  refine lv_aload_n hx hb dL_law_442 rfl (lv_at hl 0 rfl) ?_
  refine lv_iload_n hx hb dL_law_443 rfl (lv_at hl 3 rfl) ?_
  refine lv_iconst (v := 3) hx hb dL_law_444 (by decide) ?_
  refine lv_iadd hx hb dL_law_445 ?_
  refine va_sld hx hb hX hbl hbA hS (sc_in 3 rfl (by omega) hL) dL_law_446 ?_
  refine lv_i2l hx hb dL_law_447 rfl ?_
  refine lv_bipush (v := 32) hx hb dL_law_448 (by decide) ?_
  refine lv_lshl hx hb dL_law_450 rfl ?_
  refine lv_aload_n hx hb dL_law_451 rfl (lv_at hl 0 rfl) ?_
  refine lv_iload_n hx hb dL_law_452 rfl (lv_at hl 3 rfl) ?_
  refine lv_iconst (v := 4) hx hb dL_law_453 (by decide) ?_
  refine lv_iadd hx hb dL_law_454 ?_
  refine va_sld hx hb hX hbl hbA hS (sc_in 4 rfl (by omega) hL) dL_law_455 ?_
  refine lv_i2l hx hb dL_law_456 rfl ?_
  refine lv_ldc2 (v := 4294967295) hx hb hown (hts0 (.constantLong RL 13 4294967295) (by decide +kernel)) dL_law_457 ?_
  refine lv_land hx hb dL_law_460 ?_
  refine lv_lor hx hb dL_law_461 ?_
  have hPc := hP.sub (ws' := xw ad cd u) [0, 1, 2, 3, 4, 5] rfl
  have hKc := hK.sub (tys' := xt cd) [0, 1, 2, 3, 4] rfl
  refine vp_callSl (W.runV (As := [.int (xs (nI i + 1).toNatClampNeg), .int (xs (nI i + 2).toNatClampNeg), .long (((xs (nI i + 3).toNatClampNeg).toInt64 <<< ((32 : Int32).toInt64 &&& 63)) ||| ((xs (nI i + 4).toNatClampNeg).toInt64 &&& 4294967295))]) (rest := []) ⟨hx, hb, hml, hown, hts⟩ (xk_again l D ad cd u (xs (nI i + 1).toNatClampNeg) (xs (nI i + 2).toNatClampNeg) (((xs (nI i + 3).toNatClampNeg).toInt64 <<< ((32 : Int32).toInt64 &&& 63)) ||| ((xs (nI i + 4).toNatClampNeg).toInt64 &&& 4294967295))) (cwV 3 hts gL_law_X0_again rfl rfl rfl (by decide +kernel) ⟨Nat.le_of_ble_eq_true rfl, Nat.le_of_ble_eq_true rfl⟩) ⟨fun a U g mk q => ⟨q.1, q.2.1, va_K.moved (u := U) (U := U.calling g mk a) (Vm.Alike.refl U.vm) q.2.2⟩, va_recv hKc hPc (ci := 0) (q0 := 0) rfl rfl, fun U hU hW => ⟨rfl, by rw [hU]; exact hPc, va_K.moved hW.alike hKc⟩⟩ rfl rfl hl.1 rfl (lv_room (Nat.le_of_ble_eq_true rfl)) dL_law_462 ⟨Nat.le_of_ble_eq_true rfl, Nat.le_of_ble_eq_true rfl⟩) (fun rx hrx => ?_)
  refine lv_aload_n hx hb dL_law_465 rfl (lv_at hl 2 rfl) ?_
  refine lv_aload_n hx hb dL_law_466 rfl (lv_at hl 0 rfl) ?_
  refine lv_iload_n hx hb dL_law_467 rfl (lv_at hl 3 rfl) ?_
  refine lv_iconst (v := 1) hx hb dL_law_468 (by decide) ?_
  refine lv_iadd hx hb dL_law_469 ?_
  refine va_sld hx hb hX hbl hbA hS (sc_in 1 rfl (by omega) hL) dL_law_470 ?_
  refine lv_aload_n hx hb dL_law_471 rfl (lv_at hl 0 rfl) ?_
  refine lv_iload_n hx hb dL_law_472 rfl (lv_at hl 3 rfl) ?_
  refine lv_iconst (v := 2) hx hb dL_law_473 (by decide) ?_
  refine lv_iadd hx hb dL_law_474 ?_
  refine va_sld hx hb hX hbl hbA hS (sc_in 2 rfl (by omega) hL) dL_law_475 ?_
  refine lv_aload_n hx hb dL_law_476 rfl (lv_at hl 0 rfl) ?_
  refine lv_iload_n hx hb dL_law_477 rfl (lv_at hl 3 rfl) ?_
  refine lv_iconst (v := 3) hx hb dL_law_478 (by decide) ?_
  refine lv_iadd hx hb dL_law_479 ?_
  refine va_sld hx hb hX hbl hbA hS (sc_in 3 rfl (by omega) hL) dL_law_480 ?_
  refine lv_i2l hx hb dL_law_481 rfl ?_
  refine lv_bipush (v := 32) hx hb dL_law_482 (by decide) ?_
  refine lv_lshl hx hb dL_law_484 rfl ?_
  refine lv_aload_n hx hb dL_law_485 rfl (lv_at hl 0 rfl) ?_
  refine lv_iload_n hx hb dL_law_486 rfl (lv_at hl 3 rfl) ?_
  refine lv_iconst (v := 4) hx hb dL_law_487 (by decide) ?_
  refine lv_iadd hx hb dL_law_488 ?_
  refine va_sld hx hb hX hbl hbA hS (sc_in 4 rfl (by omega) hL) dL_law_489 ?_
  refine lv_i2l hx hb dL_law_490 rfl ?_
  refine lv_ldc2 (v := 4294967295) hx hb hown (hts0 (.constantLong RL 13 4294967295) (by decide +kernel)) dL_law_491 ?_
  refine lv_land hx hb dL_law_494 ?_
  refine lv_lor hx hb dL_law_495 ?_
  have hPc := hP.sub (ws' := yw bd ed w) [6, 7, 8, 9, 10, 11] rfl
  have hKc := hK.sub (tys' := yt ed) [5, 6, 7, 8, 9] rfl
  refine vp_callSl (W.runV (As := [.int (xs (nI i + 1).toNatClampNeg), .int (xs (nI i + 2).toNatClampNeg), .long (((xs (nI i + 3).toNatClampNeg).toInt64 <<< ((32 : Int32).toInt64 &&& 63)) ||| ((xs (nI i + 4).toNatClampNeg).toInt64 &&& 4294967295))]) (rest := [.long rx]) ⟨hx, hb, hml, hown, hts⟩ (yk_again l D bd ed w (xs (nI i + 1).toNatClampNeg) (xs (nI i + 2).toNatClampNeg) (((xs (nI i + 3).toNatClampNeg).toInt64 <<< ((32 : Int32).toInt64 &&& 63)) ||| ((xs (nI i + 4).toNatClampNeg).toInt64 &&& 4294967295)) (rel_h2 hR)) (cwV 3 hts gL_law_X1_again rfl rfl rfl (by decide +kernel) ⟨Nat.le_of_ble_eq_true rfl, Nat.le_of_ble_eq_true rfl⟩) ⟨fun a U g mk q => ⟨q.1, q.2.1, va_K.moved (u := U) (U := U.calling g mk a) (Vm.Alike.refl U.vm) q.2.2⟩, va_recv hKc hPc (ci := 1) (q0 := 0) rfl rfl, fun U hU hW => ⟨rfl, by rw [hU]; exact hPc, va_K.moved hW.alike hKc⟩⟩ rfl rfl hl.1 rfl (lv_room (Nat.le_of_ble_eq_true rfl)) dL_law_496 ⟨Nat.le_of_ble_eq_true rfl, Nat.le_of_ble_eq_true rfl⟩) (fun ry hry => ?_)
  refine W.lcmp hx hb dL_law_499 ?_
  have hst := step_again hR (xs (nI i + 1).toNatClampNeg) (xs (nI i + 2).toNatClampNeg) (((xs (nI i + 3).toNatClampNeg).toInt64 <<< ((32 : Int32).toInt64 &&& 63)) ||| ((xs (nI i + 4).toNatClampNeg).toInt64 &&& 4294967295))
  subst hrx
  subst hry
  refine lv_if_eq (tgt := 579) hx hb dL_law_500 (by decide) (fun _ => kont u w H locs hR hP hD hS) (fun c9 => absurd ((lg_cmp_eq _ _).mpr hst) c9)
set_option maxHeartbeats 4000000 in
set_option maxRecDepth 100000 in
theorem law_10 {p : Program} {l : Launch} {e : Env} {s : State} {m : MethodId} {below : List Frame} {meth : Method} {c : Code} {D : va_G} {b L : Nat} {xs : Nat → Int32} (hL : L ≤ 2560) (C0 : lw_At p s m meth c b L xs) {ad bd : Nat → Nat} {cd ed : Nat → ClassId} (hK : va_K D vwCl (xt cd ++ yt ed) s) {i : Nat} (hi : i + 5 ≤ L) {ls : Array Slot} (hl : lv_has ls 4 [(0, .ref b), (1, .ref (ad 0)), (2, .ref (bd 0)), (3, .int (nI i))]) (kont : lw_K p l e s m below meth c D b ad bd cd ed ls 579) : lw_K p l e s m below meth c D b ad bd cd ed ls 505 := by
  obtain ⟨hx, hb, hr, hml, hown, hts0, hX, hbl, hlocks, hgv⟩ := C0
  have hts := fun w h => hts0 w (wsL_law_in w h)
  have hA : ∀ q : Nat, s.heap.size ≤ q → (fun q : Nat => s.heap.size ≤ q) q := fun _ h => h
  have hbA : ¬ (fun q : Nat => s.heap.size ≤ q) b := Nat.not_le.mpr hbl
  intro u w H locs hR hP hD hS
  refine lv_aload_n hx hb dL_law_505 rfl (lv_at hl 1 rfl) ?_
  refine lv_aload_n hx hb dL_law_506 rfl (lv_at hl 0 rfl) ?_
  refine lv_iload_n hx hb dL_law_507 rfl (lv_at hl 3 rfl) ?_
  refine lv_iconst (v := 1) hx hb dL_law_508 (by decide) ?_
  refine lv_iadd hx hb dL_law_509 ?_
  refine va_sld hx hb hX hbl hbA hS (sc_in 1 rfl (by omega) hL) dL_law_510 ?_
  refine lv_aload_n hx hb dL_law_511 rfl (lv_at hl 0 rfl) ?_
  refine lv_iload_n hx hb dL_law_512 rfl (lv_at hl 3 rfl) ?_
  refine lv_iconst (v := 2) hx hb dL_law_513 (by decide) ?_
  refine lv_iadd hx hb dL_law_514 ?_
  refine va_sld hx hb hX hbl hbA hS (sc_in 2 rfl (by omega) hL) dL_law_515 ?_
  refine lv_aload_n hx hb dL_law_516 rfl (lv_at hl 0 rfl) ?_
  refine lv_iload_n hx hb dL_law_517 rfl (lv_at hl 3 rfl) ?_
  refine lv_iconst (v := 3) hx hb dL_law_518 (by decide) ?_
  refine lv_iadd hx hb dL_law_519 ?_
  refine va_sld hx hb hX hbl hbA hS (sc_in 3 rfl (by omega) hL) dL_law_520 ?_
  refine lv_i2l hx hb dL_law_521 rfl ?_
  refine lv_bipush (v := 32) hx hb dL_law_522 (by decide) ?_
  refine lv_lshl hx hb dL_law_524 rfl ?_
  refine lv_aload_n hx hb dL_law_525 rfl (lv_at hl 0 rfl) ?_
  refine lv_iload_n hx hb dL_law_526 rfl (lv_at hl 3 rfl) ?_
  refine lv_iconst (v := 4) hx hb dL_law_527 (by decide) ?_
  refine lv_iadd hx hb dL_law_528 ?_
  refine va_sld hx hb hX hbl hbA hS (sc_in 4 rfl (by omega) hL) dL_law_529 ?_
  refine lv_i2l hx hb dL_law_530 rfl ?_
  refine lv_ldc2 (v := 4294967295) hx hb hown (hts0 (.constantLong RL 13 4294967295) (by decide +kernel)) dL_law_531 ?_
  refine lv_land hx hb dL_law_534 ?_
  refine lv_lor hx hb dL_law_535 ?_
  have hPc := hP.sub (ws' := xw ad cd u) [0, 1, 2, 3, 4, 5] rfl
  have hKc := hK.sub (tys' := xt cd) [0, 1, 2, 3, 4] rfl
  refine vp_callSl (W.runV (As := [.int (xs (nI i + 1).toNatClampNeg), .int (xs (nI i + 2).toNatClampNeg), .long (((xs (nI i + 3).toNatClampNeg).toInt64 <<< ((32 : Int32).toInt64 &&& 63)) ||| ((xs (nI i + 4).toNatClampNeg).toInt64 &&& 4294967295))]) (rest := []) ⟨hx, hb, hml, hown, hts⟩ (xk_log l D ad cd u (xs (nI i + 1).toNatClampNeg) (xs (nI i + 2).toNatClampNeg) (((xs (nI i + 3).toNatClampNeg).toInt64 <<< ((32 : Int32).toInt64 &&& 63)) ||| ((xs (nI i + 4).toNatClampNeg).toInt64 &&& 4294967295))) (cwV 3 hts gL_law_X0_log rfl rfl rfl (by decide +kernel) ⟨Nat.le_of_ble_eq_true rfl, Nat.le_of_ble_eq_true rfl⟩) ⟨fun a U g mk q => ⟨q.1, q.2.1, va_K.moved (u := U) (U := U.calling g mk a) (Vm.Alike.refl U.vm) q.2.2⟩, va_recv hKc hPc (ci := 0) (q0 := 0) rfl rfl, fun U hU hW => ⟨rfl, by rw [hU]; exact hPc, va_K.moved hW.alike hKc⟩⟩ rfl rfl hl.1 rfl (lv_room (Nat.le_of_ble_eq_true rfl)) dL_law_536 ⟨Nat.le_of_ble_eq_true rfl, Nat.le_of_ble_eq_true rfl⟩) (fun rx hrx => ?_)
  refine lv_aload_n hx hb dL_law_539 rfl (lv_at hl 2 rfl) ?_
  refine lv_aload_n hx hb dL_law_540 rfl (lv_at hl 0 rfl) ?_
  refine lv_iload_n hx hb dL_law_541 rfl (lv_at hl 3 rfl) ?_
  refine lv_iconst (v := 1) hx hb dL_law_542 (by decide) ?_
  refine lv_iadd hx hb dL_law_543 ?_
  refine va_sld hx hb hX hbl hbA hS (sc_in 1 rfl (by omega) hL) dL_law_544 ?_
  refine lv_aload_n hx hb dL_law_545 rfl (lv_at hl 0 rfl) ?_
  refine lv_iload_n hx hb dL_law_546 rfl (lv_at hl 3 rfl) ?_
  refine lv_iconst (v := 2) hx hb dL_law_547 (by decide) ?_
  refine lv_iadd hx hb dL_law_548 ?_
  refine va_sld hx hb hX hbl hbA hS (sc_in 2 rfl (by omega) hL) dL_law_549 ?_
  refine lv_aload_n hx hb dL_law_550 rfl (lv_at hl 0 rfl) ?_
  refine lv_iload_n hx hb dL_law_551 rfl (lv_at hl 3 rfl) ?_
  refine lv_iconst (v := 3) hx hb dL_law_552 (by decide) ?_
  refine lv_iadd hx hb dL_law_553 ?_
  refine va_sld hx hb hX hbl hbA hS (sc_in 3 rfl (by omega) hL) dL_law_554 ?_
  refine lv_i2l hx hb dL_law_555 rfl ?_
  refine lv_bipush (v := 32) hx hb dL_law_556 (by decide) ?_
  refine lv_lshl hx hb dL_law_558 rfl ?_
  refine lv_aload_n hx hb dL_law_559 rfl (lv_at hl 0 rfl) ?_
  refine lv_iload_n hx hb dL_law_560 rfl (lv_at hl 3 rfl) ?_
  refine lv_iconst (v := 4) hx hb dL_law_561 (by decide) ?_
  refine lv_iadd hx hb dL_law_562 ?_
  refine va_sld hx hb hX hbl hbA hS (sc_in 4 rfl (by omega) hL) dL_law_563 ?_
  refine lv_i2l hx hb dL_law_564 rfl ?_
  refine lv_ldc2 (v := 4294967295) hx hb hown (hts0 (.constantLong RL 13 4294967295) (by decide +kernel)) dL_law_565 ?_
  refine lv_land hx hb dL_law_568 ?_
  refine lv_lor hx hb dL_law_569 ?_
  have hPc := hP.sub (ws' := yw bd ed w) [6, 7, 8, 9, 10, 11] rfl
  have hKc := hK.sub (tys' := yt ed) [5, 6, 7, 8, 9] rfl
  refine vp_callSl (W.runV (As := [.int (xs (nI i + 1).toNatClampNeg), .int (xs (nI i + 2).toNatClampNeg), .long (((xs (nI i + 3).toNatClampNeg).toInt64 <<< ((32 : Int32).toInt64 &&& 63)) ||| ((xs (nI i + 4).toNatClampNeg).toInt64 &&& 4294967295))]) (rest := [.long rx]) ⟨hx, hb, hml, hown, hts⟩ (yk_log l D bd ed w (xs (nI i + 1).toNatClampNeg) (xs (nI i + 2).toNatClampNeg) (((xs (nI i + 3).toNatClampNeg).toInt64 <<< ((32 : Int32).toInt64 &&& 63)) ||| ((xs (nI i + 4).toNatClampNeg).toInt64 &&& 4294967295)) (rel_h2 hR)) (cwV 3 hts0 gT_law_X1_log rfl rfl rfl (by decide +kernel) ⟨Nat.le_of_ble_eq_true rfl, Nat.le_of_ble_eq_true rfl⟩) ⟨fun a U g mk q => ⟨q.1, q.2.1, va_K.moved (u := U) (U := U.calling g mk a) (Vm.Alike.refl U.vm) q.2.2⟩, va_recv hKc hPc (ci := 1) (q0 := 0) rfl rfl, fun U hU hW => ⟨rfl, by rw [hU]; exact hPc, va_K.moved hW.alike hKc⟩⟩ rfl rfl hl.1 rfl (lv_room (Nat.le_of_ble_eq_true rfl)) dL_law_570 ⟨Nat.le_of_ble_eq_true rfl, Nat.le_of_ble_eq_true rfl⟩) (fun ry hry => ?_)
  refine W.lcmp hx hb dL_law_573 ?_
  have hst := step_log hR (xs (nI i + 1).toNatClampNeg) (xs (nI i + 2).toNatClampNeg) (((xs (nI i + 3).toNatClampNeg).toInt64 <<< ((32 : Int32).toInt64 &&& 63)) ||| ((xs (nI i + 4).toNatClampNeg).toInt64 &&& 4294967295))
  subst hrx
  subst hry
  refine lv_if_eq (tgt := 579) hx hb dL_law_574 (by decide) (fun _ => kont u w H locs hR hP hD hS) (fun c9 => absurd ((lg_cmp_eq _ _).mpr hst) c9)
