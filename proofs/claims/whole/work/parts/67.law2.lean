set_option maxHeartbeats 4000000 in
set_option maxRecDepth 100000 in
theorem law_grams {p : Program} {l : Launch} {e : Env} {s : State} {m : MethodId} {below : List Frame} {meth : Method} {c : Code} {b L : Nat} {xs : Nat → Int32} {D : va_G} {K : Nat → ClassId} {q0 q1 i cc ss : Nat} {H : Heap} {locs : List Loc} {ls : Array Slot} {Q : State → Prop} (C : LC p s m c b L xs D K) (hi : i + 5 ≤ L) (hcc : cc + 4 ≤ 600000) (hss : ss + 49 ≤ 7302250) (I : LI D K s b q0 q1 i H locs ls)
    (kk : ∀ (H1 : Heap) (locs1 : List Loc) (ls1 : Array Slot), LI D K s b q0 q1 i H1 locs1 ls1 → W p l e room_1 s m #[Value.ref b] below meth c H1 locs1 (cc + 4) (ss + 49) Q (F0 m 872 ls1 [])) : W p l e room_1 s m #[Value.ref b] below meth c H locs cc ss Q (F0 m 395 ls []) := by
  obtain ⟨hx, hb, hml, hown, htw, hX, hbl, hL, hK, hN⟩ := C
  obtain ⟨hl, hS, σ, ad, w, hI, hRX, hRM, hw, rfl, rfl⟩ := I
  have hbA : ¬ (fun q : Nat => s.heap.size ≤ q) b := Nat.not_le.mpr hbl
  obtain ⟨fs, hM0⟩ := RepM_at hRM
  refine lv_aload_n hx hb d_L_law_395 rfl (lv_at hl 2 rfl) ?_
  refine lv_aload_n hx hb d_L_law_396 rfl (lv_at hl 3 rfl) ?_
  refine lv_iload_n hx hb d_L_law_397 rfl (lv_at hl 0 rfl) ?_
  refine lv_iconst (v := 1) hx hb d_L_law_398 (by decide) ?_
  refine lv_iadd hx hb d_L_law_399 ?_
  refine va_sld (i := (nI i) + 1) hx hb hX hbl hbA hS (xvin (a := i + 1) (xadd (a := i) (b := 1) rfl rfl) (by omega) (by omega)) d_L_law_400 ?_
  refine xr_call (va_runV (As := [.int (xs ((nI i) + 1).toNatClampNeg)]) (rest := []) ⟨hx, hb, hml, hown, htw⟩ (c_A_grams (l := l) hRX hI hw (xs ((nI i) + 1).toNatClampNeg)) (cwV 1 htw (gV u_196 u_197 u_198 u_1 u_199) rfl rfl rfl hd_A_grams ⟨Nat.le_of_ble_eq_true rfl, Nat.le_of_ble_eq_true rfl⟩) ⟨xP_blind, hw.recv hK (ci := 0) (t := 0) rfl hRX.1 rfl, xP_of hK hN⟩ rfl rfl hl.1 rfl (lv_room (Nat.le_of_ble_eq_true rfl)) d_L_law_401 ⟨(by show cc + 0 ≤ 600000; omega), (by show ss + 0 ≤ 7302250; omega)⟩) hS (fun v H_ locs hp hS => ?_)
  obtain ⟨rfl, hHe⟩ := hp
  rw [hHe] at hS ⊢
  refine W.eq (g2 := F0 m 404 ls [.long (f_grams σ (xs ((nI i) + 1).toNatClampNeg))]) rfl ?_
  refine lv_aload_n hx hb d_L_law_404 rfl (lv_at hl 1 rfl) ?_
  refine lv_aload_n hx hb d_L_law_405 rfl (lv_at hl 3 rfl) ?_
  refine lv_iload_n hx hb d_L_law_406 rfl (lv_at hl 0 rfl) ?_
  refine lv_iconst (v := 1) hx hb d_L_law_407 (by decide) ?_
  refine lv_iadd hx hb d_L_law_408 ?_
  refine va_sld (i := (nI i) + 1) hx hb hX hbl hbA hS (xvin (a := i + 1) (xadd (a := i) (b := 1) rfl rfl) (by omega) (by omega)) d_L_law_409 ?_
  refine xr_call (va_runV (As := [.int (xs ((nI i) + 1).toNatClampNeg)]) (rest := [.long (f_grams σ (xs ((nI i) + 1).toNatClampNeg))]) ⟨hx, hb, hml, hown, htw⟩ (c_M_grams (l := l) hRM hI hw (xs ((nI i) + 1).toNatClampNeg)) (cwV 1 htw (gV u_448 u_449 u_450 u_3 u_451) rfl rfl rfl hd_M_grams ⟨Nat.le_of_ble_eq_true rfl, Nat.le_of_ble_eq_true rfl⟩) ⟨xP_blind, hw.recv hK (ci := 5) (t := 200) rfl hM0 rfl, xP_of hK hN⟩ rfl rfl hl.1 rfl (lv_room (Nat.le_of_ble_eq_true rfl)) d_L_law_410 ⟨(by show cc + 0 + 0 ≤ 600000; omega), (by show ss + 0 + 0 ≤ 7302250; omega)⟩) hS (fun v H_ locs hp hS => ?_)
  obtain ⟨rfl, hHe⟩ := hp
  rw [hHe] at hS ⊢
  refine W.eq (g2 := F0 m 413 ls [.long (f_grams σ (xs ((nI i) + 1).toNatClampNeg)), .long (f_grams σ (xs ((nI i) + 1).toNatClampNeg))]) rfl ?_
  refine xr_lc_eq (tgt := 872) hx hb d_L_law_413 d_L_law_414 (by decide) (fun c_1 => ?_) (fun c_1 => absurd rfl c_1)
  refine W.widen (k := cc + 4) (n := ss + 49) (by show cc + 0 + 0 ≤ cc + 4; omega) (by show ss + 0 + 0 ≤ ss + 49; omega) ?_
  exact kk _ _ _ ⟨hl, hS, σ, ad, w, hI, hRX, hRM, hw, rfl, rfl⟩
set_option maxHeartbeats 4000000 in
set_option maxRecDepth 100000 in
theorem law_stock {p : Program} {l : Launch} {e : Env} {s : State} {m : MethodId} {below : List Frame} {meth : Method} {c : Code} {b L : Nat} {xs : Nat → Int32} {D : va_G} {K : Nat → ClassId} {q0 q1 i cc ss : Nat} {H : Heap} {locs : List Loc} {ls : Array Slot} {Q : State → Prop} (C : LC p s m c b L xs D K) (hi : i + 5 ≤ L) (hcc : cc + 4 ≤ 600000) (hss : ss + 49 ≤ 7302250) (I : LI D K s b q0 q1 i H locs ls)
    (kk : ∀ (H1 : Heap) (locs1 : List Loc) (ls1 : Array Slot), LI D K s b q0 q1 i H1 locs1 ls1 → W p l e room_1 s m #[Value.ref b] below meth c H1 locs1 (cc + 4) (ss + 49) Q (F0 m 872 ls1 [])) : W p l e room_1 s m #[Value.ref b] below meth c H locs cc ss Q (F0 m 419 ls []) := by
  obtain ⟨hx, hb, hml, hown, htw, hX, hbl, hL, hK, hN⟩ := C
  obtain ⟨hl, hS, σ, ad, w, hI, hRX, hRM, hw, rfl, rfl⟩ := I
  have hbA : ¬ (fun q : Nat => s.heap.size ≤ q) b := Nat.not_le.mpr hbl
  obtain ⟨fs, hM0⟩ := RepM_at hRM
  refine lv_aload_n hx hb d_L_law_419 rfl (lv_at hl 2 rfl) ?_
  refine lv_aload_n hx hb d_L_law_420 rfl (lv_at hl 3 rfl) ?_
  refine lv_iload_n hx hb d_L_law_421 rfl (lv_at hl 0 rfl) ?_
  refine lv_iconst (v := 1) hx hb d_L_law_422 (by decide) ?_
  refine lv_iadd hx hb d_L_law_423 ?_
  refine va_sld (i := (nI i) + 1) hx hb hX hbl hbA hS (xvin (a := i + 1) (xadd (a := i) (b := 1) rfl rfl) (by omega) (by omega)) d_L_law_424 ?_
  refine lv_aload_n hx hb d_L_law_425 rfl (lv_at hl 3 rfl) ?_
  refine lv_iload_n hx hb d_L_law_426 rfl (lv_at hl 0 rfl) ?_
  refine lv_iconst (v := 2) hx hb d_L_law_427 (by decide) ?_
  refine lv_iadd hx hb d_L_law_428 ?_
  refine va_sld (i := (nI i) + 2) hx hb hX hbl hbA hS (xvin (a := i + 2) (xadd (a := i) (b := 2) rfl rfl) (by omega) (by omega)) d_L_law_429 ?_
  refine xr_call (va_runV (As := [.int (xs ((nI i) + 1).toNatClampNeg), .int (xs ((nI i) + 2).toNatClampNeg)]) (rest := []) ⟨hx, hb, hml, hown, htw⟩ (c_A_stock (l := l) hRX hI hw (xs ((nI i) + 1).toNatClampNeg) (xs ((nI i) + 2).toNatClampNeg)) (cwV 2 htw (gV u_200 u_201 u_202 u_1 u_203) rfl rfl rfl hd_A_stock ⟨Nat.le_of_ble_eq_true rfl, Nat.le_of_ble_eq_true rfl⟩) ⟨xP_blind, hw.recv hK (ci := 0) (t := 0) rfl hRX.1 rfl, xP_of hK hN⟩ rfl rfl hl.1 rfl (lv_room (Nat.le_of_ble_eq_true rfl)) d_L_law_430 ⟨(by show cc + 0 ≤ 600000; omega), (by show ss + 0 ≤ 7302250; omega)⟩) hS (fun v H_ locs hp hS => ?_)
  obtain ⟨rfl, hHe⟩ := hp
  rw [hHe] at hS ⊢
  refine W.eq (g2 := F0 m 433 ls [.long (f_stock σ (xs ((nI i) + 1).toNatClampNeg) (xs ((nI i) + 2).toNatClampNeg))]) rfl ?_
  refine lv_aload_n hx hb d_L_law_433 rfl (lv_at hl 1 rfl) ?_
  refine lv_aload_n hx hb d_L_law_434 rfl (lv_at hl 3 rfl) ?_
  refine lv_iload_n hx hb d_L_law_435 rfl (lv_at hl 0 rfl) ?_
  refine lv_iconst (v := 1) hx hb d_L_law_436 (by decide) ?_
  refine lv_iadd hx hb d_L_law_437 ?_
  refine va_sld (i := (nI i) + 1) hx hb hX hbl hbA hS (xvin (a := i + 1) (xadd (a := i) (b := 1) rfl rfl) (by omega) (by omega)) d_L_law_438 ?_
  refine lv_aload_n hx hb d_L_law_439 rfl (lv_at hl 3 rfl) ?_
  refine lv_iload_n hx hb d_L_law_440 rfl (lv_at hl 0 rfl) ?_
  refine lv_iconst (v := 2) hx hb d_L_law_441 (by decide) ?_
  refine lv_iadd hx hb d_L_law_442 ?_
  refine va_sld (i := (nI i) + 2) hx hb hX hbl hbA hS (xvin (a := i + 2) (xadd (a := i) (b := 2) rfl rfl) (by omega) (by omega)) d_L_law_443 ?_
  refine xr_call (va_runV (As := [.int (xs ((nI i) + 1).toNatClampNeg), .int (xs ((nI i) + 2).toNatClampNeg)]) (rest := [.long (f_stock σ (xs ((nI i) + 1).toNatClampNeg) (xs ((nI i) + 2).toNatClampNeg))]) ⟨hx, hb, hml, hown, htw⟩ (c_M_stock (l := l) hRM hI hw (xs ((nI i) + 1).toNatClampNeg) (xs ((nI i) + 2).toNatClampNeg)) (cwV 2 htw (gV u_465 u_466 u_467 u_3 u_468) rfl rfl rfl hd_M_stock ⟨Nat.le_of_ble_eq_true rfl, Nat.le_of_ble_eq_true rfl⟩) ⟨xP_blind, hw.recv hK (ci := 5) (t := 200) rfl hM0 rfl, xP_of hK hN⟩ rfl rfl hl.1 rfl (lv_room (Nat.le_of_ble_eq_true rfl)) d_L_law_444 ⟨(by show cc + 0 + 0 ≤ 600000; omega), (by show ss + 0 + 0 ≤ 7302250; omega)⟩) hS (fun v H_ locs hp hS => ?_)
  obtain ⟨rfl, hHe⟩ := hp
  rw [hHe] at hS ⊢
  refine W.eq (g2 := F0 m 447 ls [.long (f_stock σ (xs ((nI i) + 1).toNatClampNeg) (xs ((nI i) + 2).toNatClampNeg)), .long (f_stock σ (xs ((nI i) + 1).toNatClampNeg) (xs ((nI i) + 2).toNatClampNeg))]) rfl ?_
  refine xr_lc_eq (tgt := 872) hx hb d_L_law_447 d_L_law_448 (by decide) (fun c_1 => ?_) (fun c_1 => absurd rfl c_1)
  refine W.widen (k := cc + 4) (n := ss + 49) (by show cc + 0 + 0 ≤ cc + 4; omega) (by show ss + 0 + 0 ≤ ss + 49; omega) ?_
  exact kk _ _ _ ⟨hl, hS, σ, ad, w, hI, hRX, hRM, hw, rfl, rfl⟩
set_option maxHeartbeats 4000000 in
set_option maxRecDepth 100000 in
theorem law_price {p : Program} {l : Launch} {e : Env} {s : State} {m : MethodId} {below : List Frame} {meth : Method} {c : Code} {b L : Nat} {xs : Nat → Int32} {D : va_G} {K : Nat → ClassId} {q0 q1 i cc ss : Nat} {H : Heap} {locs : List Loc} {ls : Array Slot} {Q : State → Prop} (C : LC p s m c b L xs D K) (hi : i + 5 ≤ L) (hcc : cc + 4 ≤ 600000) (hss : ss + 49 ≤ 7302250) (I : LI D K s b q0 q1 i H locs ls)
    (kk : ∀ (H1 : Heap) (locs1 : List Loc) (ls1 : Array Slot), LI D K s b q0 q1 i H1 locs1 ls1 → W p l e room_1 s m #[Value.ref b] below meth c H1 locs1 (cc + 4) (ss + 49) Q (F0 m 872 ls1 [])) : W p l e room_1 s m #[Value.ref b] below meth c H locs cc ss Q (F0 m 453 ls []) := by
  obtain ⟨hx, hb, hml, hown, htw, hX, hbl, hL, hK, hN⟩ := C
  obtain ⟨hl, hS, σ, ad, w, hI, hRX, hRM, hw, rfl, rfl⟩ := I
  have hbA : ¬ (fun q : Nat => s.heap.size ≤ q) b := Nat.not_le.mpr hbl
  obtain ⟨fs, hM0⟩ := RepM_at hRM
  refine lv_aload_n hx hb d_L_law_453 rfl (lv_at hl 2 rfl) ?_
  refine lv_aload_n hx hb d_L_law_454 rfl (lv_at hl 3 rfl) ?_
  refine lv_iload_n hx hb d_L_law_455 rfl (lv_at hl 0 rfl) ?_
  refine lv_iconst (v := 1) hx hb d_L_law_456 (by decide) ?_
  refine lv_iadd hx hb d_L_law_457 ?_
  refine va_sld (i := (nI i) + 1) hx hb hX hbl hbA hS (xvin (a := i + 1) (xadd (a := i) (b := 1) rfl rfl) (by omega) (by omega)) d_L_law_458 ?_
  refine lv_aload_n hx hb d_L_law_459 rfl (lv_at hl 3 rfl) ?_
  refine lv_iload_n hx hb d_L_law_460 rfl (lv_at hl 0 rfl) ?_
  refine lv_iconst (v := 2) hx hb d_L_law_461 (by decide) ?_
  refine lv_iadd hx hb d_L_law_462 ?_
  refine va_sld (i := (nI i) + 2) hx hb hX hbl hbA hS (xvin (a := i + 2) (xadd (a := i) (b := 2) rfl rfl) (by omega) (by omega)) d_L_law_463 ?_
  refine lv_aload_n hx hb d_L_law_464 rfl (lv_at hl 3 rfl) ?_
  refine lv_iload_n hx hb d_L_law_465 rfl (lv_at hl 0 rfl) ?_
  refine lv_iconst (v := 3) hx hb d_L_law_466 (by decide) ?_
  refine lv_iadd hx hb d_L_law_467 ?_
  refine va_sld (i := (nI i) + 3) hx hb hX hbl hbA hS (xvin (a := i + 3) (xadd (a := i) (b := 3) rfl rfl) (by omega) (by omega)) d_L_law_468 ?_
  refine lv_i2l hx hb d_L_law_469 rfl ?_
  refine lv_bipush (v := 32) hx hb d_L_law_470 (by decide) ?_
  refine lv_lshl hx hb d_L_law_472 rfl ?_
  refine lv_aload_n hx hb d_L_law_473 rfl (lv_at hl 3 rfl) ?_
  refine lv_iload_n hx hb d_L_law_474 rfl (lv_at hl 0 rfl) ?_
  refine lv_iconst (v := 4) hx hb d_L_law_475 (by decide) ?_
  refine lv_iadd hx hb d_L_law_476 ?_
  refine va_sld (i := (nI i) + 4) hx hb hX hbl hbA hS (xvin (a := i + 4) (xadd (a := i) (b := 4) rfl rfl) (by omega) (by omega)) d_L_law_477 ?_
  refine lv_i2l hx hb d_L_law_478 rfl ?_
  refine lv_ldc2 (v := 4294967295) hx hb hown (htw _ u_542) d_L_law_479 ?_
  refine lv_land hx hb d_L_law_482 ?_
  refine lv_lor hx hb d_L_law_483 ?_
  refine xr_call (va_runV (As := [.int (xs ((nI i) + 1).toNatClampNeg), .int (xs ((nI i) + 2).toNatClampNeg), .long ((((xs ((nI i) + 3).toNatClampNeg).toInt64) <<< ((32 : Int32).toInt64 &&& 63)) ||| (((xs ((nI i) + 4).toNatClampNeg).toInt64) &&& 4294967295))]) (rest := []) ⟨hx, hb, hml, hown, htw⟩ (c_A_price (l := l) hRX hI hw (xs ((nI i) + 1).toNatClampNeg) (xs ((nI i) + 2).toNatClampNeg) ((((xs ((nI i) + 3).toNatClampNeg).toInt64) <<< ((32 : Int32).toInt64 &&& 63)) ||| (((xs ((nI i) + 4).toNatClampNeg).toInt64) &&& 4294967295))) (cwV 3 htw (gV u_204 u_205 u_206 u_1 u_207) rfl rfl rfl hd_A_price ⟨Nat.le_of_ble_eq_true rfl, Nat.le_of_ble_eq_true rfl⟩) ⟨xP_blind, hw.recv hK (ci := 0) (t := 0) rfl hRX.1 rfl, xP_of hK hN⟩ rfl rfl hl.1 rfl (lv_room (Nat.le_of_ble_eq_true rfl)) d_L_law_484 ⟨(by show cc + 0 ≤ 600000; omega), (by show ss + 0 ≤ 7302250; omega)⟩) hS (fun v H_ locs hp hS => ?_)
  obtain ⟨rfl, ad1, w1, hw, hRX, h00, h200⟩ := hp
  refine W.eq (g2 := F0 m 487 ls [.int ((f_price σ (xs ((nI i) + 1).toNatClampNeg) (xs ((nI i) + 2).toNatClampNeg) ((((xs ((nI i) + 3).toNatClampNeg).toInt64) <<< ((32 : Int32).toInt64 &&& 63)) ||| (((xs ((nI i) + 4).toNatClampNeg).toInt64) &&& 4294967295))).2)]) rfl ?_
  refine lv_aload_n hx hb d_L_law_487 rfl (lv_at hl 1 rfl) ?_
  refine lv_aload_n hx hb d_L_law_488 rfl (lv_at hl 3 rfl) ?_
  refine lv_iload_n hx hb d_L_law_489 rfl (lv_at hl 0 rfl) ?_
  refine lv_iconst (v := 1) hx hb d_L_law_490 (by decide) ?_
  refine lv_iadd hx hb d_L_law_491 ?_
  refine va_sld (i := (nI i) + 1) hx hb hX hbl hbA hS (xvin (a := i + 1) (xadd (a := i) (b := 1) rfl rfl) (by omega) (by omega)) d_L_law_492 ?_
  refine lv_aload_n hx hb d_L_law_493 rfl (lv_at hl 3 rfl) ?_
  refine lv_iload_n hx hb d_L_law_494 rfl (lv_at hl 0 rfl) ?_
  refine lv_iconst (v := 2) hx hb d_L_law_495 (by decide) ?_
  refine lv_iadd hx hb d_L_law_496 ?_
  refine va_sld (i := (nI i) + 2) hx hb hX hbl hbA hS (xvin (a := i + 2) (xadd (a := i) (b := 2) rfl rfl) (by omega) (by omega)) d_L_law_497 ?_
  refine lv_aload_n hx hb d_L_law_498 rfl (lv_at hl 3 rfl) ?_
  refine lv_iload_n hx hb d_L_law_499 rfl (lv_at hl 0 rfl) ?_
  refine lv_iconst (v := 3) hx hb d_L_law_500 (by decide) ?_
  refine lv_iadd hx hb d_L_law_501 ?_
  refine va_sld (i := (nI i) + 3) hx hb hX hbl hbA hS (xvin (a := i + 3) (xadd (a := i) (b := 3) rfl rfl) (by omega) (by omega)) d_L_law_502 ?_
  refine lv_i2l hx hb d_L_law_503 rfl ?_
  refine lv_bipush (v := 32) hx hb d_L_law_504 (by decide) ?_
  refine lv_lshl hx hb d_L_law_506 rfl ?_
  refine lv_aload_n hx hb d_L_law_507 rfl (lv_at hl 3 rfl) ?_
  refine lv_iload_n hx hb d_L_law_508 rfl (lv_at hl 0 rfl) ?_
  refine lv_iconst (v := 4) hx hb d_L_law_509 (by decide) ?_
  refine lv_iadd hx hb d_L_law_510 ?_
  refine va_sld (i := (nI i) + 4) hx hb hX hbl hbA hS (xvin (a := i + 4) (xadd (a := i) (b := 4) rfl rfl) (by omega) (by omega)) d_L_law_511 ?_
  refine lv_i2l hx hb d_L_law_512 rfl ?_
  refine lv_ldc2 (v := 4294967295) hx hb hown (htw _ u_542) d_L_law_513 ?_
  refine lv_land hx hb d_L_law_516 ?_
  refine lv_lor hx hb d_L_law_517 ?_
  have cm := c_M_price (l := l) (RepM_frame h200 hRM) hI hw (xs ((nI i) + 1).toNatClampNeg) (xs ((nI i) + 2).toNatClampNeg) ((((xs ((nI i) + 3).toNatClampNeg).toInt64) <<< ((32 : Int32).toInt64 &&& 63)) ||| (((xs ((nI i) + 4).toNatClampNeg).toInt64) &&& 4294967295))
  rw [(h200 200 (Nat.le_refl _)).2] at cm
  refine xr_call (va_runV (As := [.int (xs ((nI i) + 1).toNatClampNeg), .int (xs ((nI i) + 2).toNatClampNeg), .long ((((xs ((nI i) + 3).toNatClampNeg).toInt64) <<< ((32 : Int32).toInt64 &&& 63)) ||| (((xs ((nI i) + 4).toNatClampNeg).toInt64) &&& 4294967295))]) (rest := [.int ((f_price σ (xs ((nI i) + 1).toNatClampNeg) (xs ((nI i) + 2).toNatClampNeg) ((((xs ((nI i) + 3).toNatClampNeg).toInt64) <<< ((32 : Int32).toInt64 &&& 63)) ||| (((xs ((nI i) + 4).toNatClampNeg).toInt64) &&& 4294967295))).2)]) ⟨hx, hb, hml, hown, htw⟩ cm (cwV 3 htw (gV u_473 u_474 u_475 u_3 u_476) rfl rfl rfl hd_M_price ⟨Nat.le_of_ble_eq_true rfl, Nat.le_of_ble_eq_true rfl⟩) ⟨xP_blind, hw.recv hK (ci := 5) (t := 200) rfl ((h200 200 (Nat.le_refl _)).1.trans hM0) ((h200 200 (Nat.le_refl _)).2), xP_of hK hN⟩ rfl rfl hl.1 rfl (lv_room (Nat.le_of_ble_eq_true rfl)) d_L_law_518 ⟨(by show cc + 0 + 0 ≤ 600000; omega), (by show ss + 0 + 0 ≤ 7302250; omega)⟩) hS (fun v H_ locs hp hS => ?_)
  obtain ⟨rfl, w2, hw, hRM, hlt⟩ := hp
  refine W.eq (g2 := F0 m 521 ls [.int ((f_price σ (xs ((nI i) + 1).toNatClampNeg) (xs ((nI i) + 2).toNatClampNeg) ((((xs ((nI i) + 3).toNatClampNeg).toInt64) <<< ((32 : Int32).toInt64 &&& 63)) ||| (((xs ((nI i) + 4).toNatClampNeg).toInt64) &&& 4294967295))).2), .int ((f_price σ (xs ((nI i) + 1).toNatClampNeg) (xs ((nI i) + 2).toNatClampNeg) ((((xs ((nI i) + 3).toNatClampNeg).toInt64) <<< ((32 : Int32).toInt64 &&& 63)) ||| (((xs ((nI i) + 4).toNatClampNeg).toInt64) &&& 4294967295))).2)]) rfl ?_
  refine lv_icmp_eq (tgt := 872) hx hb d_L_law_521 (by decide) (fun c_1 => ?_) (fun c_1 => absurd rfl c_1)
  refine W.widen (k := cc + 4) (n := ss + 49) (by show cc + 0 + 0 ≤ cc + 4; omega) (by show ss + 0 + 0 ≤ ss + 49; omega) ?_
  have hJ : Inv (f_price σ (xs ((nI i) + 1).toNatClampNeg) (xs ((nI i) + 2).toNatClampNeg) ((((xs ((nI i) + 3).toNatClampNeg).toInt64) <<< ((32 : Int32).toInt64 &&& 63)) ||| (((xs ((nI i) + 4).toNatClampNeg).toInt64) &&& 4294967295))).1 := IF_price hI
  exact kk _ _ _ ⟨hl, hS, _, ad1, w2, hJ, RepX_frame hJ.1 hJ.2.1 hJ.2.2.1 (fun t ht => ⟨hlt t ht, rfl⟩) hRX, hRM, hw, h00, (h200 200 (Nat.le_refl _)).2⟩
set_option maxHeartbeats 4000000 in
set_option maxRecDepth 100000 in
theorem law_worth {p : Program} {l : Launch} {e : Env} {s : State} {m : MethodId} {below : List Frame} {meth : Method} {c : Code} {b L : Nat} {xs : Nat → Int32} {D : va_G} {K : Nat → ClassId} {q0 q1 i cc ss : Nat} {H : Heap} {locs : List Loc} {ls : Array Slot} {Q : State → Prop} (C : LC p s m c b L xs D K) (hi : i + 5 ≤ L) (hcc : cc + 4 ≤ 600000) (hss : ss + 49 ≤ 7302250) (I : LI D K s b q0 q1 i H locs ls)
    (kk : ∀ (H1 : Heap) (locs1 : List Loc) (ls1 : Array Slot), LI D K s b q0 q1 i H1 locs1 ls1 → W p l e room_1 s m #[Value.ref b] below meth c H1 locs1 (cc + 4) (ss + 49) Q (F0 m 872 ls1 [])) : W p l e room_1 s m #[Value.ref b] below meth c H locs cc ss Q (F0 m 526 ls []) := by
  obtain ⟨hx, hb, hml, hown, htw, hX, hbl, hL, hK, hN⟩ := C
  obtain ⟨hl, hS, σ, ad, w, hI, hRX, hRM, hw, rfl, rfl⟩ := I
  have hbA : ¬ (fun q : Nat => s.heap.size ≤ q) b := Nat.not_le.mpr hbl
  obtain ⟨fs, hM0⟩ := RepM_at hRM
  refine lv_aload_n hx hb d_L_law_526 rfl (lv_at hl 2 rfl) ?_
  refine lv_aload_n hx hb d_L_law_527 rfl (lv_at hl 3 rfl) ?_
  refine lv_iload_n hx hb d_L_law_528 rfl (lv_at hl 0 rfl) ?_
  refine lv_iconst (v := 1) hx hb d_L_law_529 (by decide) ?_
  refine lv_iadd hx hb d_L_law_530 ?_
  refine va_sld (i := (nI i) + 1) hx hb hX hbl hbA hS (xvin (a := i + 1) (xadd (a := i) (b := 1) rfl rfl) (by omega) (by omega)) d_L_law_531 ?_
  refine lv_aload_n hx hb d_L_law_532 rfl (lv_at hl 3 rfl) ?_
  refine lv_iload_n hx hb d_L_law_533 rfl (lv_at hl 0 rfl) ?_
  refine lv_iconst (v := 2) hx hb d_L_law_534 (by decide) ?_
  refine lv_iadd hx hb d_L_law_535 ?_
  refine va_sld (i := (nI i) + 2) hx hb hX hbl hbA hS (xvin (a := i + 2) (xadd (a := i) (b := 2) rfl rfl) (by omega) (by omega)) d_L_law_536 ?_
  refine xr_call (va_runV (As := [.int (xs ((nI i) + 1).toNatClampNeg), .int (xs ((nI i) + 2).toNatClampNeg)]) (rest := []) ⟨hx, hb, hml, hown, htw⟩ (c_A_worth (l := l) hRX hI hw (xs ((nI i) + 1).toNatClampNeg) (xs ((nI i) + 2).toNatClampNeg)) (cwV 2 htw (gV u_217 u_218 u_219 u_1 u_220) rfl rfl rfl hd_A_worth ⟨Nat.le_of_ble_eq_true rfl, Nat.le_of_ble_eq_true rfl⟩) ⟨xP_blind, hw.recv hK (ci := 0) (t := 0) rfl hRX.1 rfl, xP_of hK hN⟩ rfl rfl hl.1 rfl (lv_room (Nat.le_of_ble_eq_true rfl)) d_L_law_537 ⟨(by show cc + 0 ≤ 600000; omega), (by show ss + 0 ≤ 7302250; omega)⟩) hS (fun v H_ locs hp hS => ?_)
  obtain ⟨rfl, hHe⟩ := hp
  rw [hHe] at hS ⊢
  refine W.eq (g2 := F0 m 540 ls [.long (f_worth σ (xs ((nI i) + 1).toNatClampNeg) (xs ((nI i) + 2).toNatClampNeg))]) rfl ?_
  refine lv_aload_n hx hb d_L_law_540 rfl (lv_at hl 1 rfl) ?_
  refine lv_aload_n hx hb d_L_law_541 rfl (lv_at hl 3 rfl) ?_
  refine lv_iload_n hx hb d_L_law_542 rfl (lv_at hl 0 rfl) ?_
  refine lv_iconst (v := 1) hx hb d_L_law_543 (by decide) ?_
  refine lv_iadd hx hb d_L_law_544 ?_
  refine va_sld (i := (nI i) + 1) hx hb hX hbl hbA hS (xvin (a := i + 1) (xadd (a := i) (b := 1) rfl rfl) (by omega) (by omega)) d_L_law_545 ?_
  refine lv_aload_n hx hb d_L_law_546 rfl (lv_at hl 3 rfl) ?_
  refine lv_iload_n hx hb d_L_law_547 rfl (lv_at hl 0 rfl) ?_
  refine lv_iconst (v := 2) hx hb d_L_law_548 (by decide) ?_
  refine lv_iadd hx hb d_L_law_549 ?_
  refine va_sld (i := (nI i) + 2) hx hb hX hbl hbA hS (xvin (a := i + 2) (xadd (a := i) (b := 2) rfl rfl) (by omega) (by omega)) d_L_law_550 ?_
  refine xr_call (va_runV (As := [.int (xs ((nI i) + 1).toNatClampNeg), .int (xs ((nI i) + 2).toNatClampNeg)]) (rest := [.long (f_worth σ (xs ((nI i) + 1).toNatClampNeg) (xs ((nI i) + 2).toNatClampNeg))]) ⟨hx, hb, hml, hown, htw⟩ (c_M_worth (l := l) hRM hI hw (xs ((nI i) + 1).toNatClampNeg) (xs ((nI i) + 2).toNatClampNeg)) (cwV 2 htw (gV u_477 u_478 u_479 u_3 u_480) rfl rfl rfl hd_M_worth ⟨Nat.le_of_ble_eq_true rfl, Nat.le_of_ble_eq_true rfl⟩) ⟨xP_blind, hw.recv hK (ci := 5) (t := 200) rfl hM0 rfl, xP_of hK hN⟩ rfl rfl hl.1 rfl (lv_room (Nat.le_of_ble_eq_true rfl)) d_L_law_551 ⟨(by show cc + 0 + 0 ≤ 600000; omega), (by show ss + 0 + 0 ≤ 7302250; omega)⟩) hS (fun v H_ locs hp hS => ?_)
  obtain ⟨rfl, hHe⟩ := hp
  rw [hHe] at hS ⊢
  refine W.eq (g2 := F0 m 554 ls [.long (f_worth σ (xs ((nI i) + 1).toNatClampNeg) (xs ((nI i) + 2).toNatClampNeg)), .long (f_worth σ (xs ((nI i) + 1).toNatClampNeg) (xs ((nI i) + 2).toNatClampNeg))]) rfl ?_
  refine xr_lc_eq (tgt := 872) hx hb d_L_law_554 d_L_law_555 (by decide) (fun c_1 => ?_) (fun c_1 => absurd rfl c_1)
  refine W.widen (k := cc + 4) (n := ss + 49) (by show cc + 0 + 0 ≤ cc + 4; omega) (by show ss + 0 + 0 ≤ ss + 49; omega) ?_
  exact kk _ _ _ ⟨hl, hS, σ, ad, w, hI, hRX, hRM, hw, rfl, rfl⟩
set_option maxHeartbeats 4000000 in
set_option maxRecDepth 100000 in
theorem law_sell {p : Program} {l : Launch} {e : Env} {s : State} {m : MethodId} {below : List Frame} {meth : Method} {c : Code} {b L : Nat} {xs : Nat → Int32} {D : va_G} {K : Nat → ClassId} {q0 q1 i cc ss : Nat} {H : Heap} {locs : List Loc} {ls : Array Slot} {Q : State → Prop} (C : LC p s m c b L xs D K) (hi : i + 5 ≤ L) (hcc : cc + 4 ≤ 600000) (hss : ss + 49 ≤ 7302250) (I : LI D K s b q0 q1 i H locs ls)
    (kk : ∀ (H1 : Heap) (locs1 : List Loc) (ls1 : Array Slot), LI D K s b q0 q1 i H1 locs1 ls1 → W p l e room_1 s m #[Value.ref b] below meth c H1 locs1 (cc + 4) (ss + 49) Q (F0 m 872 ls1 [])) : W p l e room_1 s m #[Value.ref b] below meth c H locs cc ss Q (F0 m 560 ls []) := by
  obtain ⟨hx, hb, hml, hown, htw, hX, hbl, hL, hK, hN⟩ := C
  obtain ⟨hl, hS, σ, ad, w, hI, hRX, hRM, hw, rfl, rfl⟩ := I
  have hbA : ¬ (fun q : Nat => s.heap.size ≤ q) b := Nat.not_le.mpr hbl
  obtain ⟨fs, hM0⟩ := RepM_at hRM
  refine lv_aload_n hx hb d_L_law_560 rfl (lv_at hl 2 rfl) ?_
  refine lv_aload_n hx hb d_L_law_561 rfl (lv_at hl 3 rfl) ?_
  refine lv_iload_n hx hb d_L_law_562 rfl (lv_at hl 0 rfl) ?_
  refine lv_iconst (v := 1) hx hb d_L_law_563 (by decide) ?_
  refine lv_iadd hx hb d_L_law_564 ?_
  refine va_sld (i := (nI i) + 1) hx hb hX hbl hbA hS (xvin (a := i + 1) (xadd (a := i) (b := 1) rfl rfl) (by omega) (by omega)) d_L_law_565 ?_
  refine xr_call (va_runV (As := [.int (xs ((nI i) + 1).toNatClampNeg)]) (rest := []) ⟨hx, hb, hml, hown, htw⟩ (c_A_sell (l := l) hRX hI hw (xs ((nI i) + 1).toNatClampNeg)) (cwV 1 htw (gV u_230 u_231 u_232 u_1 u_233) rfl rfl rfl hd_A_sell ⟨Nat.le_of_ble_eq_true rfl, Nat.le_of_ble_eq_true rfl⟩) ⟨xP_blind, hw.recv hK (ci := 0) (t := 0) rfl hRX.1 rfl, xP_of hK hN⟩ rfl rfl hl.1 rfl (lv_room (Nat.le_of_ble_eq_true rfl)) d_L_law_566 ⟨(by show cc + 0 ≤ 600000; omega), (by show ss + 0 ≤ 7302250; omega)⟩) hS (fun v H_ locs hp hS => ?_)
  obtain ⟨rfl, ad1, w1, hw, hRX, h00, h200⟩ := hp
  refine W.eq (g2 := F0 m 569 ls [.long ((f_sell σ (xs ((nI i) + 1).toNatClampNeg)).2)]) rfl ?_
  refine lv_aload_n hx hb d_L_law_569 rfl (lv_at hl 1 rfl) ?_
  refine lv_aload_n hx hb d_L_law_570 rfl (lv_at hl 3 rfl) ?_
  refine lv_iload_n hx hb d_L_law_571 rfl (lv_at hl 0 rfl) ?_
  refine lv_iconst (v := 1) hx hb d_L_law_572 (by decide) ?_
  refine lv_iadd hx hb d_L_law_573 ?_
  refine va_sld (i := (nI i) + 1) hx hb hX hbl hbA hS (xvin (a := i + 1) (xadd (a := i) (b := 1) rfl rfl) (by omega) (by omega)) d_L_law_574 ?_
  have cm := c_M_sell (l := l) (RepM_frame h200 hRM) hI hw (xs ((nI i) + 1).toNatClampNeg)
  rw [(h200 200 (Nat.le_refl _)).2] at cm
  refine xr_call (va_runV (As := [.int (xs ((nI i) + 1).toNatClampNeg)]) (rest := [.long ((f_sell σ (xs ((nI i) + 1).toNatClampNeg)).2)]) ⟨hx, hb, hml, hown, htw⟩ cm (cwV 1 htw (gV u_489 u_490 u_491 u_3 u_492) rfl rfl rfl hd_M_sell ⟨Nat.le_of_ble_eq_true rfl, Nat.le_of_ble_eq_true rfl⟩) ⟨xP_blind, hw.recv hK (ci := 5) (t := 200) rfl ((h200 200 (Nat.le_refl _)).1.trans hM0) ((h200 200 (Nat.le_refl _)).2), xP_of hK hN⟩ rfl rfl hl.1 rfl (lv_room (Nat.le_of_ble_eq_true rfl)) d_L_law_575 ⟨(by show cc + 0 + 0 ≤ 600000; omega), (by show ss + 0 + 0 ≤ 7302250; omega)⟩) hS (fun v H_ locs hp hS => ?_)
  obtain ⟨rfl, w2, hw, hRM, hlt⟩ := hp
  refine W.eq (g2 := F0 m 578 ls [.long ((f_sell σ (xs ((nI i) + 1).toNatClampNeg)).2), .long ((f_sell σ (xs ((nI i) + 1).toNatClampNeg)).2)]) rfl ?_
  refine xr_lc_eq (tgt := 872) hx hb d_L_law_578 d_L_law_579 (by decide) (fun c_1 => ?_) (fun c_1 => absurd rfl c_1)
  refine W.widen (k := cc + 4) (n := ss + 49) (by show cc + 0 + 0 ≤ cc + 4; omega) (by show ss + 0 + 0 ≤ ss + 49; omega) ?_
  have hJ : Inv (f_sell σ (xs ((nI i) + 1).toNatClampNeg)).1 := IF_sell hI
  exact kk _ _ _ ⟨hl, hS, _, ad1, w2, hJ, RepX_frame hJ.1 hJ.2.1 hJ.2.2.1 (fun t ht => ⟨hlt t ht, rfl⟩) hRX, hRM, hw, h00, (h200 200 (Nat.le_refl _)).2⟩
set_option maxHeartbeats 4000000 in
set_option maxRecDepth 100000 in
theorem law_money {p : Program} {l : Launch} {e : Env} {s : State} {m : MethodId} {below : List Frame} {meth : Method} {c : Code} {b L : Nat} {xs : Nat → Int32} {D : va_G} {K : Nat → ClassId} {q0 q1 i cc ss : Nat} {H : Heap} {locs : List Loc} {ls : Array Slot} {Q : State → Prop} (C : LC p s m c b L xs D K) (hi : i + 5 ≤ L) (hcc : cc + 4 ≤ 600000) (hss : ss + 49 ≤ 7302250) (I : LI D K s b q0 q1 i H locs ls)
    (kk : ∀ (H1 : Heap) (locs1 : List Loc) (ls1 : Array Slot), LI D K s b q0 q1 i H1 locs1 ls1 → W p l e room_1 s m #[Value.ref b] below meth c H1 locs1 (cc + 4) (ss + 49) Q (F0 m 872 ls1 [])) : W p l e room_1 s m #[Value.ref b] below meth c H locs cc ss Q (F0 m 584 ls []) := by
  obtain ⟨hx, hb, hml, hown, htw, hX, hbl, hL, hK, hN⟩ := C
  obtain ⟨hl, hS, σ, ad, w, hI, hRX, hRM, hw, rfl, rfl⟩ := I
  have hbA : ¬ (fun q : Nat => s.heap.size ≤ q) b := Nat.not_le.mpr hbl
  obtain ⟨fs, hM0⟩ := RepM_at hRM
  refine lv_aload_n hx hb d_L_law_584 rfl (lv_at hl 2 rfl) ?_
  refine xr_call (va_runV (As := []) (rest := []) ⟨hx, hb, hml, hown, htw⟩ (c_A_money (l := l) hRX hI hw) (cwV 0 htw (gV u_237 u_238 u_239 u_1 u_240) rfl rfl rfl hd_A_money ⟨Nat.le_of_ble_eq_true rfl, Nat.le_of_ble_eq_true rfl⟩) ⟨xP_blind, hw.recv hK (ci := 0) (t := 0) rfl hRX.1 rfl, xP_of hK hN⟩ rfl rfl hl.1 rfl (lv_room (Nat.le_of_ble_eq_true rfl)) d_L_law_585 ⟨(by show cc + 0 ≤ 600000; omega), (by show ss + 0 ≤ 7302250; omega)⟩) hS (fun v H_ locs hp hS => ?_)
  obtain ⟨rfl, hHe⟩ := hp
  rw [hHe] at hS ⊢
  refine W.eq (g2 := F0 m 588 ls [.long (f_money σ)]) rfl ?_
  refine lv_aload_n hx hb d_L_law_588 rfl (lv_at hl 1 rfl) ?_
  refine xr_call (va_runV (As := []) (rest := [.long (f_money σ)]) ⟨hx, hb, hml, hown, htw⟩ (c_M_money (l := l) hRM hI hw) (cwV 0 htw (gV u_493 u_494 u_495 u_3 u_496) rfl rfl rfl hd_M_money ⟨Nat.le_of_ble_eq_true rfl, Nat.le_of_ble_eq_true rfl⟩) ⟨xP_blind, hw.recv hK (ci := 5) (t := 200) rfl hM0 rfl, xP_of hK hN⟩ rfl rfl hl.1 rfl (lv_room (Nat.le_of_ble_eq_true rfl)) d_L_law_589 ⟨(by show cc + 0 + 0 ≤ 600000; omega), (by show ss + 0 + 0 ≤ 7302250; omega)⟩) hS (fun v H_ locs hp hS => ?_)
  obtain ⟨rfl, hHe⟩ := hp
  rw [hHe] at hS ⊢
  refine W.eq (g2 := F0 m 592 ls [.long (f_money σ), .long (f_money σ)]) rfl ?_
  refine xr_lc_eq (tgt := 872) hx hb d_L_law_592 d_L_law_593 (by decide) (fun c_1 => ?_) (fun c_1 => absurd rfl c_1)
  refine W.widen (k := cc + 4) (n := ss + 49) (by show cc + 0 + 0 ≤ cc + 4; omega) (by show ss + 0 + 0 ≤ ss + 49; omega) ?_
  exact kk _ _ _ ⟨hl, hS, σ, ad, w, hI, hRX, hRM, hw, rfl, rfl⟩
set_option maxHeartbeats 4000000 in
set_option maxRecDepth 100000 in
theorem law_assay {p : Program} {l : Launch} {e : Env} {s : State} {m : MethodId} {below : List Frame} {meth : Method} {c : Code} {b L : Nat} {xs : Nat → Int32} {D : va_G} {K : Nat → ClassId} {q0 q1 i cc ss : Nat} {H : Heap} {locs : List Loc} {ls : Array Slot} {Q : State → Prop} (C : LC p s m c b L xs D K) (hi : i + 5 ≤ L) (hcc : cc + 4 ≤ 600000) (hss : ss + 49 ≤ 7302250) (I : LI D K s b q0 q1 i H locs ls)
    (kk : ∀ (H1 : Heap) (locs1 : List Loc) (ls1 : Array Slot), LI D K s b q0 q1 i H1 locs1 ls1 → W p l e room_1 s m #[Value.ref b] below meth c H1 locs1 (cc + 4) (ss + 49) Q (F0 m 872 ls1 [])) : W p l e room_1 s m #[Value.ref b] below meth c H locs cc ss Q (F0 m 598 ls []) := by
  obtain ⟨hx, hb, hml, hown, htw, hX, hbl, hL, hK, hN⟩ := C
  obtain ⟨hl, hS, σ, ad, w, hI, hRX, hRM, hw, rfl, rfl⟩ := I
  have hbA : ¬ (fun q : Nat => s.heap.size ≤ q) b := Nat.not_le.mpr hbl
  obtain ⟨fs, hM0⟩ := RepM_at hRM
  refine lv_aload_n hx hb d_L_law_598 rfl (lv_at hl 2 rfl) ?_
  refine lv_aload_n hx hb d_L_law_599 rfl (lv_at hl 3 rfl) ?_
  refine lv_iload_n hx hb d_L_law_600 rfl (lv_at hl 0 rfl) ?_
  refine lv_iconst (v := 1) hx hb d_L_law_601 (by decide) ?_
  refine lv_iadd hx hb d_L_law_602 ?_
  refine va_sld (i := (nI i) + 1) hx hb hX hbl hbA hS (xvin (a := i + 1) (xadd (a := i) (b := 1) rfl rfl) (by omega) (by omega)) d_L_law_603 ?_
  refine lv_aload_n hx hb d_L_law_604 rfl (lv_at hl 3 rfl) ?_
  refine lv_iload_n hx hb d_L_law_605 rfl (lv_at hl 0 rfl) ?_
  refine lv_iconst (v := 2) hx hb d_L_law_606 (by decide) ?_
  refine lv_iadd hx hb d_L_law_607 ?_
  refine va_sld (i := (nI i) + 2) hx hb hX hbl hbA hS (xvin (a := i + 2) (xadd (a := i) (b := 2) rfl rfl) (by omega) (by omega)) d_L_law_608 ?_
  refine lv_aload_n hx hb d_L_law_609 rfl (lv_at hl 3 rfl) ?_
  refine lv_iload_n hx hb d_L_law_610 rfl (lv_at hl 0 rfl) ?_
  refine lv_iconst (v := 3) hx hb d_L_law_611 (by decide) ?_
  refine lv_iadd hx hb d_L_law_612 ?_
  refine va_sld (i := (nI i) + 3) hx hb hX hbl hbA hS (xvin (a := i + 3) (xadd (a := i) (b := 3) rfl rfl) (by omega) (by omega)) d_L_law_613 ?_
  refine lv_aload_n hx hb d_L_law_614 rfl (lv_at hl 3 rfl) ?_
  refine lv_iload_n hx hb d_L_law_615 rfl (lv_at hl 0 rfl) ?_
  refine lv_iconst (v := 4) hx hb d_L_law_616 (by decide) ?_
  refine lv_iadd hx hb d_L_law_617 ?_
  refine va_sld (i := (nI i) + 4) hx hb hX hbl hbA hS (xvin (a := i + 4) (xadd (a := i) (b := 4) rfl rfl) (by omega) (by omega)) d_L_law_618 ?_
  refine xr_call (va_runV (As := [.int (xs ((nI i) + 1).toNatClampNeg), .int (xs ((nI i) + 2).toNatClampNeg), .int (xs ((nI i) + 3).toNatClampNeg), .int (xs ((nI i) + 4).toNatClampNeg)]) (rest := []) ⟨hx, hb, hml, hown, htw⟩ (c_A_assay (l := l) hRX hI hw (xs ((nI i) + 1).toNatClampNeg) (xs ((nI i) + 2).toNatClampNeg) (xs ((nI i) + 3).toNatClampNeg) (xs ((nI i) + 4).toNatClampNeg)) (cwV 4 htw (gV u_241 u_242 u_243 u_1 u_244) rfl rfl rfl hd_A_assay ⟨Nat.le_of_ble_eq_true rfl, Nat.le_of_ble_eq_true rfl⟩) ⟨xP_blind, hw.recv hK (ci := 0) (t := 0) rfl hRX.1 rfl, xP_of hK hN⟩ rfl rfl hl.1 rfl (lv_room (Nat.le_of_ble_eq_true rfl)) d_L_law_619 ⟨(by show cc + 0 ≤ 600000; omega), (by show ss + 0 ≤ 7302250; omega)⟩) hS (fun v H_ locs hp hS => ?_)
  obtain ⟨rfl, ad1, w1, hw, hRX, h00, h200⟩ := hp
  refine W.eq (g2 := F0 m 622 ls [.int ((f_assay σ (xs ((nI i) + 1).toNatClampNeg) (xs ((nI i) + 2).toNatClampNeg) (xs ((nI i) + 3).toNatClampNeg) (xs ((nI i) + 4).toNatClampNeg)).2)]) rfl ?_
  refine lv_aload_n hx hb d_L_law_622 rfl (lv_at hl 1 rfl) ?_
  refine lv_aload_n hx hb d_L_law_623 rfl (lv_at hl 3 rfl) ?_
  refine lv_iload_n hx hb d_L_law_624 rfl (lv_at hl 0 rfl) ?_
  refine lv_iconst (v := 1) hx hb d_L_law_625 (by decide) ?_
  refine lv_iadd hx hb d_L_law_626 ?_
  refine va_sld (i := (nI i) + 1) hx hb hX hbl hbA hS (xvin (a := i + 1) (xadd (a := i) (b := 1) rfl rfl) (by omega) (by omega)) d_L_law_627 ?_
  refine lv_aload_n hx hb d_L_law_628 rfl (lv_at hl 3 rfl) ?_
  refine lv_iload_n hx hb d_L_law_629 rfl (lv_at hl 0 rfl) ?_
  refine lv_iconst (v := 2) hx hb d_L_law_630 (by decide) ?_
  refine lv_iadd hx hb d_L_law_631 ?_
  refine va_sld (i := (nI i) + 2) hx hb hX hbl hbA hS (xvin (a := i + 2) (xadd (a := i) (b := 2) rfl rfl) (by omega) (by omega)) d_L_law_632 ?_
  refine lv_aload_n hx hb d_L_law_633 rfl (lv_at hl 3 rfl) ?_
  refine lv_iload_n hx hb d_L_law_634 rfl (lv_at hl 0 rfl) ?_
  refine lv_iconst (v := 3) hx hb d_L_law_635 (by decide) ?_
  refine lv_iadd hx hb d_L_law_636 ?_
  refine va_sld (i := (nI i) + 3) hx hb hX hbl hbA hS (xvin (a := i + 3) (xadd (a := i) (b := 3) rfl rfl) (by omega) (by omega)) d_L_law_637 ?_
  refine lv_aload_n hx hb d_L_law_638 rfl (lv_at hl 3 rfl) ?_
  refine lv_iload_n hx hb d_L_law_639 rfl (lv_at hl 0 rfl) ?_
  refine lv_iconst (v := 4) hx hb d_L_law_640 (by decide) ?_
  refine lv_iadd hx hb d_L_law_641 ?_
  refine va_sld (i := (nI i) + 4) hx hb hX hbl hbA hS (xvin (a := i + 4) (xadd (a := i) (b := 4) rfl rfl) (by omega) (by omega)) d_L_law_642 ?_
  have cm := c_M_assay (l := l) (RepM_frame h200 hRM) hI hw (xs ((nI i) + 1).toNatClampNeg) (xs ((nI i) + 2).toNatClampNeg) (xs ((nI i) + 3).toNatClampNeg) (xs ((nI i) + 4).toNatClampNeg)
  rw [(h200 200 (Nat.le_refl _)).2] at cm
  refine xr_call (va_runV (As := [.int (xs ((nI i) + 1).toNatClampNeg), .int (xs ((nI i) + 2).toNatClampNeg), .int (xs ((nI i) + 3).toNatClampNeg), .int (xs ((nI i) + 4).toNatClampNeg)]) (rest := [.int ((f_assay σ (xs ((nI i) + 1).toNatClampNeg) (xs ((nI i) + 2).toNatClampNeg) (xs ((nI i) + 3).toNatClampNeg) (xs ((nI i) + 4).toNatClampNeg)).2)]) ⟨hx, hb, hml, hown, htw⟩ cm (cwV 4 htw (gV u_497 u_498 u_499 u_3 u_500) rfl rfl rfl hd_M_assay ⟨Nat.le_of_ble_eq_true rfl, Nat.le_of_ble_eq_true rfl⟩) ⟨xP_blind, hw.recv hK (ci := 5) (t := 200) rfl ((h200 200 (Nat.le_refl _)).1.trans hM0) ((h200 200 (Nat.le_refl _)).2), xP_of hK hN⟩ rfl rfl hl.1 rfl (lv_room (Nat.le_of_ble_eq_true rfl)) d_L_law_643 ⟨(by show cc + 0 + 0 ≤ 600000; omega), (by show ss + 0 + 0 ≤ 7302250; omega)⟩) hS (fun v H_ locs hp hS => ?_)
  obtain ⟨rfl, w2, hw, hRM, hlt⟩ := hp
  refine W.eq (g2 := F0 m 646 ls [.int ((f_assay σ (xs ((nI i) + 1).toNatClampNeg) (xs ((nI i) + 2).toNatClampNeg) (xs ((nI i) + 3).toNatClampNeg) (xs ((nI i) + 4).toNatClampNeg)).2), .int ((f_assay σ (xs ((nI i) + 1).toNatClampNeg) (xs ((nI i) + 2).toNatClampNeg) (xs ((nI i) + 3).toNatClampNeg) (xs ((nI i) + 4).toNatClampNeg)).2)]) rfl ?_
  refine lv_icmp_eq (tgt := 872) hx hb d_L_law_646 (by decide) (fun c_1 => ?_) (fun c_1 => absurd rfl c_1)
  refine W.widen (k := cc + 4) (n := ss + 49) (by show cc + 0 + 0 ≤ cc + 4; omega) (by show ss + 0 + 0 ≤ ss + 49; omega) ?_
  have hJ : Inv (f_assay σ (xs ((nI i) + 1).toNatClampNeg) (xs ((nI i) + 2).toNatClampNeg) (xs ((nI i) + 3).toNatClampNeg) (xs ((nI i) + 4).toNatClampNeg)).1 := IF_assay hI
  exact kk _ _ _ ⟨hl, hS, _, ad1, w2, hJ, RepX_frame hJ.1 hJ.2.1 hJ.2.2.1 (fun t ht => ⟨hlt t ht, rfl⟩) hRX, hRM, hw, h00, (h200 200 (Nat.le_refl _)).2⟩
