/-! THE LAW: a call of both -/
theorem lc_0 {G : Gm} {p : Program} {e : Env} {s : State} {m : MethodId} {below : List Frame} {meth : Method} {c : Code} {b L i : Nat} {xs : Nat → Int32} {M : Mm} (C : LwC G p s m meth c b L xs) (hi : i + 5 ≤ L) (hI : Inv M M) (k : ∀ M2, Inv M2 M2 → XW G p e s m below meth c b 1745 (lvL G b i) [] M2) : XW G p e s m below meth c b 252 (lvL G b i) [] M := by
  obtain ⟨r, M1, M2, h1, h2, h3⟩ := (q_barrel (xs (i + 1)) (xs (i + 2)) (xs (i + 3)) (xs (i + 4))).pair hI
  refine LW_aload (a := 2) C dL_law_252 rfl rfl rfl ?_
  refine LW_arg C la_253 (by omega) rfl ?_
  refine LW_arg C la_258 (by omega) rfl ?_
  refine LW_arg C la_263 (by omega) rfl ?_
  refine LW_arg C la_268 (by omega) rfl ?_
  refine LW_call (j := 0) (av := [.int (xs (i + 1)), .int (xs (i + 2)), .int (xs (i + 3)), .int (xs (i + 4))]) (st := []) C cv_L_13 rfl (c_X11_barrel G M _ _ _ _) h1 (by decide) rfl rfl (Nat.le_of_ble_eq_true rfl) dL_law_273 rfl ?_
  refine LW_aload (a := 1) C dL_law_276 rfl rfl rfl ?_
  refine LW_arg C la_277 (by omega) rfl ?_
  refine LW_arg C la_282 (by omega) rfl ?_
  refine LW_arg C la_287 (by omega) rfl ?_
  refine LW_arg C la_292 (by omega) rfl ?_
  refine LW_call (j := 94) (av := [.int (xs (i + 1)), .int (xs (i + 2)), .int (xs (i + 3)), .int (xs (i + 4))]) (st := [.int r]) C cv_L_17 rfl (c_X12_barrel G M1 _ _ _ _) h2 (by decide) rfl rfl (Nat.le_of_ble_eq_true rfl) dL_law_297 rfl ?_
  refine LW_same C dL_law_300 (by decide) ?_
  exact k M2 h3
theorem lc_1 {G : Gm} {p : Program} {e : Env} {s : State} {m : MethodId} {below : List Frame} {meth : Method} {c : Code} {b L i : Nat} {xs : Nat → Int32} {M : Mm} (C : LwC G p s m meth c b L xs) (hi : i + 5 ≤ L) (hI : Inv M M) (k : ∀ M2, Inv M2 M2 → XW G p e s m below meth c b 1745 (lvL G b i) [] M2) : XW G p e s m below meth c b 305 (lvL G b i) [] M := by
  obtain ⟨r, M1, M2, h1, h2, h3⟩ := (q_barrelOf (xs (i + 1)) (xs (i + 2))).pair hI
  refine LW_aload (a := 2) C dL_law_305 rfl rfl rfl ?_
  refine LW_arg C la_306 (by omega) rfl ?_
  refine LW_arg C la_311 (by omega) rfl ?_
  refine LW_call (j := 0) (av := [.int (xs (i + 1)), .int (xs (i + 2))]) (st := []) C cv_L_18 rfl (c_X11_barrelOf G M _ _) h1 (by decide) rfl rfl (Nat.le_of_ble_eq_true rfl) dL_law_316 rfl ?_
  refine LW_aload (a := 1) C dL_law_319 rfl rfl rfl ?_
  refine LW_arg C la_320 (by omega) rfl ?_
  refine LW_arg C la_325 (by omega) rfl ?_
  refine LW_call (j := 94) (av := [.int (xs (i + 1)), .int (xs (i + 2))]) (st := [.int r]) C cv_L_22 rfl (c_X12_barrelOf G M1 _ _) h2 (by decide) rfl rfl (Nat.le_of_ble_eq_true rfl) dL_law_330 rfl ?_
  refine LW_same C dL_law_333 (by decide) ?_
  exact k M2 h3
theorem lc_2 {G : Gm} {p : Program} {e : Env} {s : State} {m : MethodId} {below : List Frame} {meth : Method} {c : Code} {b L i : Nat} {xs : Nat → Int32} {M : Mm} (C : LwC G p s m meth c b L xs) (hi : i + 5 ≤ L) (hI : Inv M M) (k : ∀ M2, Inv M2 M2 → XW G p e s m below meth c b 1745 (lvL G b i) [] M2) : XW G p e s m below meth c b 338 (lvL G b i) [] M := by
  obtain ⟨r, M1, M2, h1, h2, h3⟩ := (q_change (xs (i + 1)) (xs (i + 2)) (xs (i + 3))).pair hI
  refine LW_aload (a := 2) C dL_law_338 rfl rfl rfl ?_
  refine LW_arg C la_339 (by omega) rfl ?_
  refine LW_arg C la_344 (by omega) rfl ?_
  refine LW_arg C la_349 (by omega) rfl ?_
  refine LW_call (j := 0) (av := [.int (xs (i + 1)), .int (xs (i + 2)), .int (xs (i + 3))]) (st := []) C cv_L_23 rfl (c_X11_change G M _ _ _) h1 (by decide) rfl rfl (Nat.le_of_ble_eq_true rfl) dL_law_354 rfl ?_
  refine LW_aload (a := 1) C dL_law_357 rfl rfl rfl ?_
  refine LW_arg C la_358 (by omega) rfl ?_
  refine LW_arg C la_363 (by omega) rfl ?_
  refine LW_arg C la_368 (by omega) rfl ?_
  refine LW_call (j := 94) (av := [.int (xs (i + 1)), .int (xs (i + 2)), .int (xs (i + 3))]) (st := [.int r]) C cv_L_27 rfl (c_X12_change G M1 _ _ _) h2 (by decide) rfl rfl (Nat.le_of_ble_eq_true rfl) dL_law_373 rfl ?_
  refine LW_same C dL_law_376 (by decide) ?_
  exact k M2 h3
theorem lc_3 {G : Gm} {p : Program} {e : Env} {s : State} {m : MethodId} {below : List Frame} {meth : Method} {c : Code} {b L i : Nat} {xs : Nat → Int32} {M : Mm} (C : LwC G p s m meth c b L xs) (hi : i + 5 ≤ L) (hI : Inv M M) (k : ∀ M2, Inv M2 M2 → XW G p e s m below meth c b 1745 (lvL G b i) [] M2) : XW G p e s m below meth c b 381 (lvL G b i) [] M := by
  obtain ⟨r, M1, M2, h1, h2, h3⟩ := (q_remake (xs (i + 1)) (xs (i + 2))).pair hI
  refine LW_aload (a := 2) C dL_law_381 rfl rfl rfl ?_
  refine LW_arg C la_382 (by omega) rfl ?_
  refine LW_arg C la_387 (by omega) rfl ?_
  refine LW_call (j := 0) (av := [.int (xs (i + 1)), .int (xs (i + 2))]) (st := []) C cv_L_28 rfl (c_X11_remake G M _ _) h1 (by decide) rfl rfl (Nat.le_of_ble_eq_true rfl) dL_law_392 rfl ?_
  refine LW_aload (a := 1) C dL_law_395 rfl rfl rfl ?_
  refine LW_arg C la_396 (by omega) rfl ?_
  refine LW_arg C la_401 (by omega) rfl ?_
  refine LW_call (j := 94) (av := [.int (xs (i + 1)), .int (xs (i + 2))]) (st := [.int r]) C cv_L_31 rfl (c_X12_remake G M1 _ _) h2 (by decide) rfl rfl (Nat.le_of_ble_eq_true rfl) dL_law_406 rfl ?_
  refine LW_same C dL_law_409 (by decide) ?_
  exact k M2 h3
theorem lc_4 {G : Gm} {p : Program} {e : Env} {s : State} {m : MethodId} {below : List Frame} {meth : Method} {c : Code} {b L i : Nat} {xs : Nat → Int32} {M : Mm} (C : LwC G p s m meth c b L xs) (hi : i + 5 ≤ L) (hI : Inv M M) (k : ∀ M2, Inv M2 M2 → XW G p e s m below meth c b 1745 (lvL G b i) [] M2) : XW G p e s m below meth c b 414 (lvL G b i) [] M := by
  obtain ⟨r, M1, M2, h1, h2, h3⟩ := (q_water (xs (i + 1)) (xs (i + 2))).pair hI
  refine LW_aload (a := 2) C dL_law_414 rfl rfl rfl ?_
  refine LW_arg C la_415 (by omega) rfl ?_
  refine LW_arg C la_420 (by omega) rfl ?_
  refine LW_call (j := 0) (av := [.int (xs (i + 1)), .int (xs (i + 2))]) (st := []) C cv_L_32 rfl (c_X11_water G M _ _) h1 (by decide) rfl rfl (Nat.le_of_ble_eq_true rfl) dL_law_425 rfl ?_
  refine LW_aload (a := 1) C dL_law_428 rfl rfl rfl ?_
  refine LW_arg C la_429 (by omega) rfl ?_
  refine LW_arg C la_434 (by omega) rfl ?_
  refine LW_call (j := 94) (av := [.int (xs (i + 1)), .int (xs (i + 2))]) (st := [.int r]) C cv_L_35 rfl (c_X12_water G M1 _ _) h2 (by decide) rfl rfl (Nat.le_of_ble_eq_true rfl) dL_law_439 rfl ?_
  refine LW_same C dL_law_442 (by decide) ?_
  exact k M2 h3
theorem lc_5 {G : Gm} {p : Program} {e : Env} {s : State} {m : MethodId} {below : List Frame} {meth : Method} {c : Code} {b L i : Nat} {xs : Nat → Int32} {M : Mm} (C : LwC G p s m meth c b L xs) (hi : i + 5 ≤ L) (hI : Inv M M) (k : ∀ M2, Inv M2 M2 → XW G p e s m below meth c b 1745 (lvL G b i) [] M2) : XW G p e s m below meth c b 447 (lvL G b i) [] M := by
  obtain ⟨r, M1, M2, h1, h2, h3⟩ := (q_tier (xs (i + 1)) (xs (i + 2)) (xs (i + 3))).pair hI
  refine LW_aload (a := 2) C dL_law_447 rfl rfl rfl ?_
  refine LW_arg C la_448 (by omega) rfl ?_
  refine LW_arg C la_453 (by omega) rfl ?_
  refine LW_arg C la_458 (by omega) rfl ?_
  refine LW_call (j := 0) (av := [.int (xs (i + 1)), .int (xs (i + 2)), .int (xs (i + 3))]) (st := []) C cv_L_36 rfl (c_X11_tier G M _ _ _) h1 (by decide) rfl rfl (Nat.le_of_ble_eq_true rfl) dL_law_463 rfl ?_
  refine LW_aload (a := 1) C dL_law_466 rfl rfl rfl ?_
  refine LW_arg C la_467 (by omega) rfl ?_
  refine LW_arg C la_472 (by omega) rfl ?_
  refine LW_arg C la_477 (by omega) rfl ?_
  refine LW_call (j := 94) (av := [.int (xs (i + 1)), .int (xs (i + 2)), .int (xs (i + 3))]) (st := [.int r]) C cv_L_39 rfl (c_X12_tier G M1 _ _ _) h2 (by decide) rfl rfl (Nat.le_of_ble_eq_true rfl) dL_law_482 rfl ?_
  refine LW_same C dL_law_485 (by decide) ?_
  exact k M2 h3
theorem lc_6 {G : Gm} {p : Program} {e : Env} {s : State} {m : MethodId} {below : List Frame} {meth : Method} {c : Code} {b L i : Nat} {xs : Nat → Int32} {M : Mm} (C : LwC G p s m meth c b L xs) (hi : i + 5 ≤ L) (hI : Inv M M) (k : ∀ M2, Inv M2 M2 → XW G p e s m below meth c b 1745 (lvL G b i) [] M2) : XW G p e s m below meth c b 490 (lvL G b i) [] M := by
  obtain ⟨r, M1, M2, h1, h2, h3⟩ := (q_tierOf (xs (i + 1)) (xs (i + 2))).pair hI
  refine LW_aload (a := 2) C dL_law_490 rfl rfl rfl ?_
  refine LW_arg C la_491 (by omega) rfl ?_
  refine LW_arg C la_496 (by omega) rfl ?_
  refine LW_call (j := 0) (av := [.int (xs (i + 1)), .int (xs (i + 2))]) (st := []) C cv_L_40 rfl (Ct_pu (c_X11_tierOf G M _ _)) h1 (by decide) rfl rfl (Nat.le_of_ble_eq_true rfl) dL_law_501 rfl ?_
  refine LW_aload (a := 1) C dL_law_504 rfl rfl rfl ?_
  refine LW_arg C la_505 (by omega) rfl ?_
  refine LW_arg C la_510 (by omega) rfl ?_
  refine LW_call (j := 94) (av := [.int (xs (i + 1)), .int (xs (i + 2))]) (st := [.int r]) C cv_L_43 rfl (Ct_pu (c_X12_tierOf G M1 _ _)) h2 (by decide) rfl rfl (Nat.le_of_ble_eq_true rfl) dL_law_515 rfl ?_
  refine LW_same C dL_law_518 (by decide) ?_
  exact k M2 h3
theorem lc_7 {G : Gm} {p : Program} {e : Env} {s : State} {m : MethodId} {below : List Frame} {meth : Method} {c : Code} {b L i : Nat} {xs : Nat → Int32} {M : Mm} (C : LwC G p s m meth c b L xs) (hi : i + 5 ≤ L) (hI : Inv M M) (k : ∀ M2, Inv M2 M2 → XW G p e s m below meth c b 1745 (lvL G b i) [] M2) : XW G p e s m below meth c b 523 (lvL G b i) [] M := by
  obtain ⟨r, M1, M2, h1, h2, h3⟩ := (q_ends (xs (i + 1))).pair hI
  refine LW_aload (a := 2) C dL_law_523 rfl rfl rfl ?_
  refine LW_arg C la_524 (by omega) rfl ?_
  refine LW_call (j := 0) (av := [.int (xs (i + 1))]) (st := []) C cv_L_44 rfl (c_X11_ends G M _) h1 (by decide) rfl rfl (Nat.le_of_ble_eq_true rfl) dL_law_529 rfl ?_
  refine LW_aload (a := 1) C dL_law_532 rfl rfl rfl ?_
  refine LW_arg C la_533 (by omega) rfl ?_
  refine LW_call (j := 94) (av := [.int (xs (i + 1))]) (st := [.int r]) C cv_L_48 rfl (c_X12_ends G M1 _) h2 (by decide) rfl rfl (Nat.le_of_ble_eq_true rfl) dL_law_538 rfl ?_
  refine LW_same C dL_law_541 (by decide) ?_
  exact k M2 h3
theorem lc_8 {G : Gm} {p : Program} {e : Env} {s : State} {m : MethodId} {below : List Frame} {meth : Method} {c : Code} {b L i : Nat} {xs : Nat → Int32} {M : Mm} (C : LwC G p s m meth c b L xs) (hi : i + 5 ≤ L) (hI : Inv M M) (k : ∀ M2, Inv M2 M2 → XW G p e s m below meth c b 1745 (lvL G b i) [] M2) : XW G p e s m below meth c b 546 (lvL G b i) [] M := by
  obtain ⟨r, M1, M2, h1, h2, h3⟩ := (q_anew).pair hI
  refine LW_aload (a := 2) C dL_law_546 rfl rfl rfl ?_
  refine LW_call (j := 0) (av := []) (st := []) C cv_L_49 rfl (c_X11_anew G M) h1 (by decide) rfl rfl (Nat.le_of_ble_eq_true rfl) dL_law_547 rfl ?_
  refine LW_aload (a := 1) C dL_law_550 rfl rfl rfl ?_
  refine LW_call (j := 94) (av := []) (st := [.int r]) C cv_L_53 rfl (c_X12_anew G M1) h2 (by decide) rfl rfl (Nat.le_of_ble_eq_true rfl) dL_law_551 rfl ?_
  refine LW_same C dL_law_554 (by decide) ?_
  exact k M2 h3
theorem lc_9 {G : Gm} {p : Program} {e : Env} {s : State} {m : MethodId} {below : List Frame} {meth : Method} {c : Code} {b L i : Nat} {xs : Nat → Int32} {M : Mm} (C : LwC G p s m meth c b L xs) (hi : i + 5 ≤ L) (hI : Inv M M) (k : ∀ M2, Inv M2 M2 → XW G p e s m below meth c b 1745 (lvL G b i) [] M2) : XW G p e s m below meth c b 559 (lvL G b i) [] M := by
  obtain ⟨r, M1, M2, h1, h2, h3⟩ := (q_state (xs (i + 1))).pair hI
  refine LW_aload (a := 2) C dL_law_559 rfl rfl rfl ?_
  refine LW_arg C la_560 (by omega) rfl ?_
  refine LW_call (j := 0) (av := [.int (xs (i + 1))]) (st := []) C cv_L_54 rfl (Ct_pu (c_X11_state G M _)) h1 (by decide) rfl rfl (Nat.le_of_ble_eq_true rfl) dL_law_565 rfl ?_
  refine LW_aload (a := 1) C dL_law_568 rfl rfl rfl ?_
  refine LW_arg C la_569 (by omega) rfl ?_
  refine LW_call (j := 94) (av := [.int (xs (i + 1))]) (st := [.int r]) C cv_L_57 rfl (Ct_pu (c_X12_state G M1 _)) h2 (by decide) rfl rfl (Nat.le_of_ble_eq_true rfl) dL_law_574 rfl ?_
  refine LW_same C dL_law_577 (by decide) ?_
  exact k M2 h3
theorem lc_10 {G : Gm} {p : Program} {e : Env} {s : State} {m : MethodId} {below : List Frame} {meth : Method} {c : Code} {b L i : Nat} {xs : Nat → Int32} {M : Mm} (C : LwC G p s m meth c b L xs) (hi : i + 5 ≤ L) (hI : Inv M M) (k : ∀ M2, Inv M2 M2 → XW G p e s m below meth c b 1745 (lvL G b i) [] M2) : XW G p e s m below meth c b 582 (lvL G b i) [] M := by
  obtain ⟨r, M1, M2, h1, h2, h3⟩ := (q_feed ((xs (i + 1)).toInt64 <<< ((32 : Int32).toInt64 &&& 63) ||| ((xs (i + 2)).toInt64 &&& 4294967295)) (xs (i + 3))).pair hI
  refine LW_aload (a := 2) C dL_law_582 rfl rfl rfl ?_
  refine LW_arg C la_583 (by omega) rfl ?_
  refine LW_i2l C dL_law_588 rfl rfl ?_
  refine LW_bipush (w := 32) C dL_law_589 kb_32 rfl ?_
  refine LW_lshl C dL_law_591 rfl rfl ?_
  refine LW_arg C la_592 (by omega) rfl ?_
  refine LW_i2l C dL_law_597 rfl rfl ?_
  refine LW_ldc2 (w := 4294967295) C t_1790 dL_law_598 rfl ?_
  refine LW_land C dL_law_601 rfl ?_
  refine LW_lor C dL_law_602 rfl ?_
  refine LW_arg C la_603 (by omega) rfl ?_
  refine LW_call (j := 0) (av := [.long ((xs (i + 1)).toInt64 <<< ((32 : Int32).toInt64 &&& 63) ||| ((xs (i + 2)).toInt64 &&& 4294967295)), .int (xs (i + 3))]) (st := []) C cv_L_60 rfl (c_X11_feed G M _ _) h1 (by decide) rfl rfl (Nat.le_of_ble_eq_true rfl) dL_law_608 rfl ?_
  refine LW_aload (a := 1) C dL_law_611 rfl rfl rfl ?_
  refine LW_arg C la_612 (by omega) rfl ?_
  refine LW_i2l C dL_law_617 rfl rfl ?_
  refine LW_bipush (w := 32) C dL_law_618 kb_32 rfl ?_
  refine LW_lshl C dL_law_620 rfl rfl ?_
  refine LW_arg C la_621 (by omega) rfl ?_
  refine LW_i2l C dL_law_626 rfl rfl ?_
  refine LW_ldc2 (w := 4294967295) C t_1790 dL_law_627 rfl ?_
  refine LW_land C dL_law_630 rfl ?_
  refine LW_lor C dL_law_631 rfl ?_
  refine LW_arg C la_632 (by omega) rfl ?_
  refine LW_call (j := 94) (av := [.long ((xs (i + 1)).toInt64 <<< ((32 : Int32).toInt64 &&& 63) ||| ((xs (i + 2)).toInt64 &&& 4294967295)), .int (xs (i + 3))]) (st := [.int r]) C cv_L_64 rfl (c_X12_feed G M1 _ _) h2 (by decide) rfl rfl (Nat.le_of_ble_eq_true rfl) dL_law_637 rfl ?_
  refine LW_same C dL_law_640 (by decide) ?_
  exact k M2 h3
theorem lc_11 {G : Gm} {p : Program} {e : Env} {s : State} {m : MethodId} {below : List Frame} {meth : Method} {c : Code} {b L i : Nat} {xs : Nat → Int32} {M : Mm} (C : LwC G p s m meth c b L xs) (hi : i + 5 ≤ L) (hI : Inv M M) (k : ∀ M2, Inv M2 M2 → XW G p e s m below meth c b 1745 (lvL G b i) [] M2) : XW G p e s m below meth c b 645 (lvL G b i) [] M := by
  obtain ⟨r, M1, M2, h1, h2, h3⟩ := (q_rules).pair hI
  refine LW_aload (a := 2) C dL_law_645 rfl rfl rfl ?_
  refine LW_call (j := 0) (av := []) (st := []) C cv_L_65 rfl (c_X11_rules G M) h1 (by decide) rfl rfl (Nat.le_of_ble_eq_true rfl) dL_law_646 rfl ?_
  refine LW_aload (a := 1) C dL_law_649 rfl rfl rfl ?_
  refine LW_call (j := 94) (av := []) (st := [.int r]) C cv_L_68 rfl (c_X12_rules G M1) h2 (by decide) rfl rfl (Nat.le_of_ble_eq_true rfl) dL_law_650 rfl ?_
  refine LW_same C dL_law_653 (by decide) ?_
  exact k M2 h3
theorem lc_12 {G : Gm} {p : Program} {e : Env} {s : State} {m : MethodId} {below : List Frame} {meth : Method} {c : Code} {b L i : Nat} {xs : Nat → Int32} {M : Mm} (C : LwC G p s m meth c b L xs) (hi : i + 5 ≤ L) (hI : Inv M M) (k : ∀ M2, Inv M2 M2 → XW G p e s m below meth c b 1745 (lvL G b i) [] M2) : XW G p e s m below meth c b 658 (lvL G b i) [] M := by
  obtain ⟨r, M1, M2, h1, h2, h3⟩ := (q_tide).pair hI
  refine LW_aload (a := 2) C dL_law_658 rfl rfl rfl ?_
  refine LW_call (j := 0) (av := []) (st := []) C cv_L_69 rfl (c_X11_tide G M) h1 (by decide) rfl rfl (Nat.le_of_ble_eq_true rfl) dL_law_659 rfl ?_
  refine LW_aload (a := 1) C dL_law_662 rfl rfl rfl ?_
  refine LW_call (j := 94) (av := []) (st := [.int r]) C cv_L_72 rfl (c_X12_tide G M1) h2 (by decide) rfl rfl (Nat.le_of_ble_eq_true rfl) dL_law_663 rfl ?_
  refine LW_same C dL_law_666 (by decide) ?_
  exact k M2 h3
theorem lc_13 {G : Gm} {p : Program} {e : Env} {s : State} {m : MethodId} {below : List Frame} {meth : Method} {c : Code} {b L i : Nat} {xs : Nat → Int32} {M : Mm} (C : LwC G p s m meth c b L xs) (hi : i + 5 ≤ L) (hI : Inv M M) (k : ∀ M2, Inv M2 M2 → XW G p e s m below meth c b 1745 (lvL G b i) [] M2) : XW G p e s m below meth c b 671 (lvL G b i) [] M := by
  obtain ⟨r, M1, M2, h1, h2, h3⟩ := (q_on (xs (i + 1))).pair hI
  refine LW_aload (a := 2) C dL_law_671 rfl rfl rfl ?_
  refine LW_arg C la_672 (by omega) rfl ?_
  refine LW_call (j := 0) (av := [.int (xs (i + 1))]) (st := []) C cv_L_73 rfl (c_X11_on G M _) h1 (by decide) rfl rfl (Nat.le_of_ble_eq_true rfl) dL_law_677 rfl ?_
  refine LW_aload (a := 1) C dL_law_680 rfl rfl rfl ?_
  refine LW_arg C la_681 (by omega) rfl ?_
  refine LW_call (j := 94) (av := [.int (xs (i + 1))]) (st := [.int r]) C cv_L_76 rfl (c_X12_on G M1 _) h2 (by decide) rfl rfl (Nat.le_of_ble_eq_true rfl) dL_law_686 rfl ?_
  refine LW_same C dL_law_689 (by decide) ?_
  exact k M2 h3
theorem lc_14 {G : Gm} {p : Program} {e : Env} {s : State} {m : MethodId} {below : List Frame} {meth : Method} {c : Code} {b L i : Nat} {xs : Nat → Int32} {M : Mm} (C : LwC G p s m meth c b L xs) (hi : i + 5 ≤ L) (hI : Inv M M) (k : ∀ M2, Inv M2 M2 → XW G p e s m below meth c b 1745 (lvL G b i) [] M2) : XW G p e s m below meth c b 694 (lvL G b i) [] M := by
  obtain ⟨r, M1, M2, h1, h2, h3⟩ := (q_when (xs (i + 1))).pair hI
  refine LW_aload (a := 2) C dL_law_694 rfl rfl rfl ?_
  refine LW_arg C la_695 (by omega) rfl ?_
  refine LW_call (j := 0) (av := [.int (xs (i + 1))]) (st := []) C cv_L_77 rfl (c_X11_when G M _) h1 (by decide) rfl rfl (Nat.le_of_ble_eq_true rfl) dL_law_700 rfl ?_
  refine LW_aload (a := 1) C dL_law_703 rfl rfl rfl ?_
  refine LW_arg C la_704 (by omega) rfl ?_
  refine LW_call (j := 94) (av := [.int (xs (i + 1))]) (st := [.int r]) C cv_L_80 rfl (c_X12_when G M1 _) h2 (by decide) rfl rfl (Nat.le_of_ble_eq_true rfl) dL_law_709 rfl ?_
  refine LW_same C dL_law_712 (by decide) ?_
  exact k M2 h3
theorem lc_15 {G : Gm} {p : Program} {e : Env} {s : State} {m : MethodId} {below : List Frame} {meth : Method} {c : Code} {b L i : Nat} {xs : Nat → Int32} {M : Mm} (C : LwC G p s m meth c b L xs) (hi : i + 5 ≤ L) (hI : Inv M M) (k : ∀ M2, Inv M2 M2 → XW G p e s m below meth c b 1745 (lvL G b i) [] M2) : XW G p e s m below meth c b 717 (lvL G b i) [] M := by
  obtain ⟨r, M1, M2, h1, h2, h3⟩ := (q_chalkFor (xs (i + 1))).pair hI
  refine LW_aload (a := 2) C dL_law_717 rfl rfl rfl ?_
  refine LW_arg C la_718 (by omega) rfl ?_
  refine LW_call (j := 0) (av := [.int (xs (i + 1))]) (st := []) C cv_L_81 rfl (c_X11_chalkFor G M _) h1 (by decide) rfl rfl (Nat.le_of_ble_eq_true rfl) dL_law_723 rfl ?_
  refine LW_aload (a := 1) C dL_law_726 rfl rfl rfl ?_
  refine LW_arg C la_727 (by omega) rfl ?_
  refine LW_call (j := 94) (av := [.int (xs (i + 1))]) (st := [.int r]) C cv_L_84 rfl (c_X12_chalkFor G M1 _) h2 (by decide) rfl rfl (Nat.le_of_ble_eq_true rfl) dL_law_732 rfl ?_
  refine LW_same C dL_law_735 (by decide) ?_
  exact k M2 h3
theorem lc_16 {G : Gm} {p : Program} {e : Env} {s : State} {m : MethodId} {below : List Frame} {meth : Method} {c : Code} {b L i : Nat} {xs : Nat → Int32} {M : Mm} (C : LwC G p s m meth c b L xs) (hi : i + 5 ≤ L) (hI : Inv M M) (k : ∀ M2, Inv M2 M2 → XW G p e s m below meth c b 1745 (lvL G b i) [] M2) : XW G p e s m below meth c b 740 (lvL G b i) [] M := by
  obtain ⟨r, M1, M2, h1, h2, h3⟩ := (q_tierFor (xs (i + 1))).pair hI
  refine LW_aload (a := 2) C dL_law_740 rfl rfl rfl ?_
  refine LW_arg C la_741 (by omega) rfl ?_
  refine LW_call (j := 0) (av := [.int (xs (i + 1))]) (st := []) C cv_L_85 rfl (c_X11_tierFor G M _) h1 (by decide) rfl rfl (Nat.le_of_ble_eq_true rfl) dL_law_746 rfl ?_
  refine LW_aload (a := 1) C dL_law_749 rfl rfl rfl ?_
  refine LW_arg C la_750 (by omega) rfl ?_
  refine LW_call (j := 94) (av := [.int (xs (i + 1))]) (st := [.int r]) C cv_L_88 rfl (c_X12_tierFor G M1 _) h2 (by decide) rfl rfl (Nat.le_of_ble_eq_true rfl) dL_law_755 rfl ?_
  refine LW_same C dL_law_758 (by decide) ?_
  exact k M2 h3
theorem lc_17 {G : Gm} {p : Program} {e : Env} {s : State} {m : MethodId} {below : List Frame} {meth : Method} {c : Code} {b L i : Nat} {xs : Nat → Int32} {M : Mm} (C : LwC G p s m meth c b L xs) (hi : i + 5 ≤ L) (hI : Inv M M) (k : ∀ M2, Inv M2 M2 → XW G p e s m below meth c b 1745 (lvL G b i) [] M2) : XW G p e s m below meth c b 763 (lvL G b i) [] M := by
  obtain ⟨r, M1, M2, h1, h2, h3⟩ := (q_dry (xs (i + 1))).pair hI
  refine LW_aload (a := 2) C dL_law_763 rfl rfl rfl ?_
  refine LW_arg C la_764 (by omega) rfl ?_
  refine LW_call (j := 0) (av := [.int (xs (i + 1))]) (st := []) C cv_L_89 rfl (c_X11_dry G M _) h1 (by decide) rfl rfl (Nat.le_of_ble_eq_true rfl) dL_law_769 rfl ?_
  refine LW_aload (a := 1) C dL_law_772 rfl rfl rfl ?_
  refine LW_arg C la_773 (by omega) rfl ?_
  refine LW_call (j := 94) (av := [.int (xs (i + 1))]) (st := [.int r]) C cv_L_92 rfl (c_X12_dry G M1 _) h2 (by decide) rfl rfl (Nat.le_of_ble_eq_true rfl) dL_law_778 rfl ?_
  refine LW_same C dL_law_781 (by decide) ?_
  exact k M2 h3
theorem lc_18 {G : Gm} {p : Program} {e : Env} {s : State} {m : MethodId} {below : List Frame} {meth : Method} {c : Code} {b L i : Nat} {xs : Nat → Int32} {M : Mm} (C : LwC G p s m meth c b L xs) (hi : i + 5 ≤ L) (hI : Inv M M) (k : ∀ M2, Inv M2 M2 → XW G p e s m below meth c b 1745 (lvL G b i) [] M2) : XW G p e s m below meth c b 786 (lvL G b i) [] M := by
  obtain ⟨r, M1, M2, h1, h2, h3⟩ := (q_least (xs (i + 1))).pair hI
  refine LW_aload (a := 2) C dL_law_786 rfl rfl rfl ?_
  refine LW_arg C la_787 (by omega) rfl ?_
  refine LW_call (j := 0) (av := [.int (xs (i + 1))]) (st := []) C cv_L_93 rfl (c_X11_least G M _) h1 (by decide) rfl rfl (Nat.le_of_ble_eq_true rfl) dL_law_792 rfl ?_
  refine LW_aload (a := 1) C dL_law_795 rfl rfl rfl ?_
  refine LW_arg C la_796 (by omega) rfl ?_
  refine LW_call (j := 94) (av := [.int (xs (i + 1))]) (st := [.int r]) C cv_L_96 rfl (c_X12_least G M1 _) h2 (by decide) rfl rfl (Nat.le_of_ble_eq_true rfl) dL_law_801 rfl ?_
  refine LW_same C dL_law_804 (by decide) ?_
  exact k M2 h3
theorem lc_19 {G : Gm} {p : Program} {e : Env} {s : State} {m : MethodId} {below : List Frame} {meth : Method} {c : Code} {b L i : Nat} {xs : Nat → Int32} {M : Mm} (C : LwC G p s m meth c b L xs) (hi : i + 5 ≤ L) (hI : Inv M M) (k : ∀ M2, Inv M2 M2 → XW G p e s m below meth c b 1745 (lvL G b i) [] M2) : XW G p e s m below meth c b 809 (lvL G b i) [] M := by
  obtain ⟨r, M1, M2, h1, h2, h3⟩ := (q_left (xs (i + 1)) (xs (i + 2))).pair hI
  refine LW_aload (a := 2) C dL_law_809 rfl rfl rfl ?_
  refine LW_arg C la_810 (by omega) rfl ?_
  refine LW_arg C la_815 (by omega) rfl ?_
  refine LW_call (j := 0) (av := [.int (xs (i + 1)), .int (xs (i + 2))]) (st := []) C cv_L_97 rfl (c_X11_left G M _ _) h1 (by decide) rfl rfl (Nat.le_of_ble_eq_true rfl) dL_law_820 rfl ?_
  refine LW_aload (a := 1) C dL_law_823 rfl rfl rfl ?_
  refine LW_arg C la_824 (by omega) rfl ?_
  refine LW_arg C la_829 (by omega) rfl ?_
  refine LW_call (j := 94) (av := [.int (xs (i + 1)), .int (xs (i + 2))]) (st := [.int r]) C cv_L_100 rfl (c_X12_left G M1 _ _) h2 (by decide) rfl rfl (Nat.le_of_ble_eq_true rfl) dL_law_834 rfl ?_
  refine LW_same C dL_law_837 (by decide) ?_
  exact k M2 h3
theorem lc_20 {G : Gm} {p : Program} {e : Env} {s : State} {m : MethodId} {below : List Frame} {meth : Method} {c : Code} {b L i : Nat} {xs : Nat → Int32} {M : Mm} (C : LwC G p s m meth c b L xs) (hi : i + 5 ≤ L) (hI : Inv M M) (k : ∀ M2, Inv M2 M2 → XW G p e s m below meth c b 1745 (lvL G b i) [] M2) : XW G p e s m below meth c b 842 (lvL G b i) [] M := by
  obtain ⟨r, M1, M2, h1, h2, h3⟩ := (q_rafts (xs (i + 1))).pair hI
  refine LW_aload (a := 2) C dL_law_842 rfl rfl rfl ?_
  refine LW_arg C la_843 (by omega) rfl ?_
  refine LW_call (j := 0) (av := [.int (xs (i + 1))]) (st := []) C cv_L_101 rfl (Ct_pu (c_X11_rafts G M _)) h1 (by decide) rfl rfl (Nat.le_of_ble_eq_true rfl) dL_law_848 rfl ?_
  refine LW_aload (a := 1) C dL_law_851 rfl rfl rfl ?_
  refine LW_arg C la_852 (by omega) rfl ?_
  refine LW_call (j := 94) (av := [.int (xs (i + 1))]) (st := [.int r]) C cv_L_104 rfl (Ct_pu (c_X12_rafts G M1 _)) h2 (by decide) rfl rfl (Nat.le_of_ble_eq_true rfl) dL_law_857 rfl ?_
  refine LW_same C dL_law_860 (by decide) ?_
  exact k M2 h3
theorem lc_21 {G : Gm} {p : Program} {e : Env} {s : State} {m : MethodId} {below : List Frame} {meth : Method} {c : Code} {b L i : Nat} {xs : Nat → Int32} {M : Mm} (C : LwC G p s m meth c b L xs) (hi : i + 5 ≤ L) (hI : Inv M M) (k : ∀ M2, Inv M2 M2 → XW G p e s m below meth c b 1745 (lvL G b i) [] M2) : XW G p e s m below meth c b 865 (lvL G b i) [] M := by
  obtain ⟨r, M1, M2, h1, h2, h3⟩ := (q_best (xs (i + 1))).pair hI
  refine LW_aload (a := 2) C dL_law_865 rfl rfl rfl ?_
  refine LW_arg C la_866 (by omega) rfl ?_
  refine LW_call (j := 0) (av := [.int (xs (i + 1))]) (st := []) C cv_L_105 rfl (c_X11_best G M _) h1 (by decide) rfl rfl (Nat.le_of_ble_eq_true rfl) dL_law_871 rfl ?_
  refine LW_aload (a := 1) C dL_law_874 rfl rfl rfl ?_
  refine LW_arg C la_875 (by omega) rfl ?_
  refine LW_call (j := 94) (av := [.int (xs (i + 1))]) (st := [.int r]) C cv_L_108 rfl (c_X12_best G M1 _) h2 (by decide) rfl rfl (Nat.le_of_ble_eq_true rfl) dL_law_880 rfl ?_
  refine LW_same C dL_law_883 (by decide) ?_
  exact k M2 h3
theorem lc_22 {G : Gm} {p : Program} {e : Env} {s : State} {m : MethodId} {below : List Frame} {meth : Method} {c : Code} {b L i : Nat} {xs : Nat → Int32} {M : Mm} (C : LwC G p s m meth c b L xs) (hi : i + 5 ≤ L) (hI : Inv M M) (k : ∀ M2, Inv M2 M2 → XW G p e s m below meth c b 1745 (lvL G b i) [] M2) : XW G p e s m below meth c b 888 (lvL G b i) [] M := by
  obtain ⟨r, M1, M2, h1, h2, h3⟩ := (q_ith (xs (i + 1)) (xs (i + 2))).pair hI
  refine LW_aload (a := 2) C dL_law_888 rfl rfl rfl ?_
  refine LW_arg C la_889 (by omega) rfl ?_
  refine LW_arg C la_894 (by omega) rfl ?_
  refine LW_call (j := 0) (av := [.int (xs (i + 1)), .int (xs (i + 2))]) (st := []) C cv_L_109 rfl (c_X11_ith G M _ _) h1 (by decide) rfl rfl (Nat.le_of_ble_eq_true rfl) dL_law_899 rfl ?_
  refine LW_aload (a := 1) C dL_law_902 rfl rfl rfl ?_
  refine LW_arg C la_903 (by omega) rfl ?_
  refine LW_arg C la_908 (by omega) rfl ?_
  refine LW_call (j := 94) (av := [.int (xs (i + 1)), .int (xs (i + 2))]) (st := [.int r]) C cv_L_112 rfl (c_X12_ith G M1 _ _) h2 (by decide) rfl rfl (Nat.le_of_ble_eq_true rfl) dL_law_913 rfl ?_
  refine LW_same C dL_law_916 (by decide) ?_
  exact k M2 h3
theorem lc_23 {G : Gm} {p : Program} {e : Env} {s : State} {m : MethodId} {below : List Frame} {meth : Method} {c : Code} {b L i : Nat} {xs : Nat → Int32} {M : Mm} (C : LwC G p s m meth c b L xs) (hi : i + 5 ≤ L) (hI : Inv M M) (k : ∀ M2, Inv M2 M2 → XW G p e s m below meth c b 1745 (lvL G b i) [] M2) : XW G p e s m below meth c b 921 (lvL G b i) [] M := by
  obtain ⟨r, M1, M2, h1, h2, h3⟩ := (q_ways (xs (i + 1))).pair hI
  refine LW_aload (a := 2) C dL_law_921 rfl rfl rfl ?_
  refine LW_arg C la_922 (by omega) rfl ?_
  refine LW_call (j := 0) (av := [.int (xs (i + 1))]) (st := []) C cv_L_113 rfl (c_X11_ways G M _) h1 (by decide) rfl rfl (Nat.le_of_ble_eq_true rfl) dL_law_927 rfl ?_
  refine LW_aload (a := 1) C dL_law_930 rfl rfl rfl ?_
  refine LW_arg C la_931 (by omega) rfl ?_
  refine LW_call (j := 94) (av := [.int (xs (i + 1))]) (st := [.int r]) C cv_L_116 rfl (c_X12_ways G M1 _) h2 (by decide) rfl rfl (Nat.le_of_ble_eq_true rfl) dL_law_936 rfl ?_
  refine LW_same C dL_law_939 (by decide) ?_
  exact k M2 h3
theorem lc_24 {G : Gm} {p : Program} {e : Env} {s : State} {m : MethodId} {below : List Frame} {meth : Method} {c : Code} {b L i : Nat} {xs : Nat → Int32} {M : Mm} (C : LwC G p s m meth c b L xs) (hi : i + 5 ≤ L) (hI : Inv M M) (k : ∀ M2, Inv M2 M2 → XW G p e s m below meth c b 1745 (lvL G b i) [] M2) : XW G p e s m below meth c b 944 (lvL G b i) [] M := by
  obtain ⟨r, M1, M2, h1, h2, h3⟩ := (q_chart (xs (i + 1)) (xs (i + 2))).pair hI
  refine LW_aload (a := 2) C dL_law_944 rfl rfl rfl ?_
  refine LW_arg C la_945 (by omega) rfl ?_
  refine LW_arg C la_950 (by omega) rfl ?_
  refine LW_call (j := 0) (av := [.int (xs (i + 1)), .int (xs (i + 2))]) (st := []) C cv_L_117 rfl (c_X11_chart G M _ _) h1 (by decide) rfl rfl (Nat.le_of_ble_eq_true rfl) dL_law_955 rfl ?_
  refine LW_aload (a := 1) C dL_law_958 rfl rfl rfl ?_
  refine LW_arg C la_959 (by omega) rfl ?_
  refine LW_arg C la_964 (by omega) rfl ?_
  refine LW_call (j := 94) (av := [.int (xs (i + 1)), .int (xs (i + 2))]) (st := [.int r]) C cv_L_120 rfl (c_X12_chart G M1 _ _) h2 (by decide) rfl rfl (Nat.le_of_ble_eq_true rfl) dL_law_969 rfl ?_
  refine LW_same C dL_law_972 (by decide) ?_
  exact k M2 h3
theorem lc_25 {G : Gm} {p : Program} {e : Env} {s : State} {m : MethodId} {below : List Frame} {meth : Method} {c : Code} {b L i : Nat} {xs : Nat → Int32} {M : Mm} (C : LwC G p s m meth c b L xs) (hi : i + 5 ≤ L) (hI : Inv M M) (k : ∀ M2, Inv M2 M2 → XW G p e s m below meth c b 1745 (lvL G b i) [] M2) : XW G p e s m below meth c b 977 (lvL G b i) [] M := by
  obtain ⟨r, M1, M2, h1, h2, h3⟩ := (q_bars (xs (i + 1)) (xs (i + 2))).pair hI
  refine LW_aload (a := 2) C dL_law_977 rfl rfl rfl ?_
  refine LW_arg C la_978 (by omega) rfl ?_
  refine LW_arg C la_983 (by omega) rfl ?_
  refine LW_call (j := 0) (av := [.int (xs (i + 1)), .int (xs (i + 2))]) (st := []) C cv_L_121 rfl (c_X11_bars G M _ _) h1 (by decide) rfl rfl (Nat.le_of_ble_eq_true rfl) dL_law_988 rfl ?_
  refine LW_aload (a := 1) C dL_law_991 rfl rfl rfl ?_
  refine LW_arg C la_992 (by omega) rfl ?_
  refine LW_arg C la_997 (by omega) rfl ?_
  refine LW_call (j := 94) (av := [.int (xs (i + 1)), .int (xs (i + 2))]) (st := [.int r]) C cv_L_124 rfl (c_X12_bars G M1 _ _) h2 (by decide) rfl rfl (Nat.le_of_ble_eq_true rfl) dL_law_1002 rfl ?_
  refine LW_same C dL_law_1005 (by decide) ?_
  exact k M2 h3
