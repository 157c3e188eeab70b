/-! ===== part 85: cases of the law's switch ===== -/
set_option maxHeartbeats 4000000 in
set_option maxRecDepth 100000 in
theorem lc_roundCount {p : Program} {e : Env} {s : State} {m : MethodId} {args : Array Value} {below : List Frame} {meth : Method} {c : Code} {Q : State → Prop} {D : va_G} {b L : Nat} {xs : Nat → Int32} {hX : Nat} {qX : Nat → Nat} {cX : Nat → ClassId} {hM : Nat} {qM : Nat → Nat} {cM : Nat → ClassId} (l : Launch) (C0 : LC p m c s args D b L xs hX qX cX hM qM cM) {i : Nat} (hi : i + 4 ≤ L) {G : GS} {Lx K : Nat → Nat} {hs : Int64} (hG : ok G) (kk : ∀ (G' : GS) (L' K' : Nat → Nat) (hs' : Int64), ok G' → LV p l e s m args below meth c Q D b hX qX cX hM qM cM i (G', L') (G', K', hs') 684 []) : LV p l e s m args below meth c Q D b hX qX cX hM qM cM i (G, Lx) (G, K, hs) 440 [] := by
  obtain ⟨F, hKX, hKM, aX1, aM1, hXs, hbl, hL⟩ := C0
  unfold LV at *
  refine x_aload_n (pc := 440) F dL_law_440 1 rfl rfl ?_
  refine y_calli (w := wX) (ty := tX) (pc := 441) F hKX wX_in aX1 rfl rfl [] [] (c_X0_roundCount l G Lx ) (cwV 0 F.2.2.2.2 gL_law_X0_roundCount rfl rfl rfl (by decide +kernel) ⟨Nat.le_of_ble_eq_true rfl, Nat.le_of_ble_eq_true rfl⟩) rfl rfl rfl rfl (Nat.le_of_ble_eq_true rfl) dL_law_441 ⟨Nat.le_of_ble_eq_true rfl, Nat.le_of_ble_eq_true rfl⟩ ?_
  rintro _ _ ⟨rfl, rfl⟩
  refine x_aload_n (pc := 444) F dL_law_444 2 rfl rfl ?_
  refine y_calli (w := wM) (ty := tM) (pc := 445) F hKM wM_in aM1 rfl rfl [] [_] (c_X1_roundCount l G K hs ) (cwV 0 F.2.2.2.2 gL_law_X1_roundCount rfl rfl rfl (by decide +kernel) ⟨Nat.le_of_ble_eq_true rfl, Nat.le_of_ble_eq_true rfl⟩) rfl rfl rfl rfl (Nat.le_of_ble_eq_true rfl) dL_law_445 ⟨Nat.le_of_ble_eq_true rfl, Nat.le_of_ble_eq_true rfl⟩ ?_
  rintro _ _ ⟨rfl, rfl⟩
  refine x_icmp_eq (tgt := 684) (pc := 448) F dL_law_448 (by decide) (fun _ => ?_) (fun hv => absurd rfl hv)
  exact kk G Lx K hs (hG)
set_option maxHeartbeats 4000000 in
set_option maxRecDepth 100000 in
theorem lc_callCount {p : Program} {e : Env} {s : State} {m : MethodId} {args : Array Value} {below : List Frame} {meth : Method} {c : Code} {Q : State → Prop} {D : va_G} {b L : Nat} {xs : Nat → Int32} {hX : Nat} {qX : Nat → Nat} {cX : Nat → ClassId} {hM : Nat} {qM : Nat → Nat} {cM : Nat → ClassId} (l : Launch) (C0 : LC p m c s args D b L xs hX qX cX hM qM cM) {i : Nat} (hi : i + 4 ≤ L) {G : GS} {Lx K : Nat → Nat} {hs : Int64} (hG : ok G) (kk : ∀ (G' : GS) (L' K' : Nat → Nat) (hs' : Int64), ok G' → LV p l e s m args below meth c Q D b hX qX cX hM qM cM i (G', L') (G', K', hs') 684 []) : LV p l e s m args below meth c Q D b hX qX cX hM qM cM i (G, Lx) (G, K, hs) 453 [] := by
  obtain ⟨F, hKX, hKM, aX1, aM1, hXs, hbl, hL⟩ := C0
  unfold LV at *
  refine x_aload_n (pc := 453) F dL_law_453 1 rfl rfl ?_
  refine y_calli (w := wX) (ty := tX) (pc := 454) F hKX wX_in aX1 rfl rfl [] [] (c_X0_callCount l G Lx ) (cwV 0 F.2.2.2.2 gL_law_X0_callCount rfl rfl rfl (by decide +kernel) ⟨Nat.le_of_ble_eq_true rfl, Nat.le_of_ble_eq_true rfl⟩) rfl rfl rfl rfl (Nat.le_of_ble_eq_true rfl) dL_law_454 ⟨Nat.le_of_ble_eq_true rfl, Nat.le_of_ble_eq_true rfl⟩ ?_
  rintro _ _ ⟨rfl, rfl⟩
  refine x_aload_n (pc := 457) F dL_law_457 2 rfl rfl ?_
  refine y_calli (w := wM) (ty := tM) (pc := 458) F hKM wM_in aM1 rfl rfl [] [_] (c_X1_callCount l G K hs ) (cwV 0 F.2.2.2.2 gL_law_X1_callCount rfl rfl rfl (by decide +kernel) ⟨Nat.le_of_ble_eq_true rfl, Nat.le_of_ble_eq_true rfl⟩) rfl rfl rfl rfl (Nat.le_of_ble_eq_true rfl) dL_law_458 ⟨Nat.le_of_ble_eq_true rfl, Nat.le_of_ble_eq_true rfl⟩ ?_
  rintro _ _ ⟨rfl, rfl⟩
  refine x_icmp_eq (tgt := 684) (pc := 461) F dL_law_461 (by decide) (fun _ => ?_) (fun hv => absurd rfl hv)
  exact kk G Lx K hs (hG)
set_option maxHeartbeats 4000000 in
set_option maxRecDepth 100000 in
theorem lc_describeCall {p : Program} {e : Env} {s : State} {m : MethodId} {args : Array Value} {below : List Frame} {meth : Method} {c : Code} {Q : State → Prop} {D : va_G} {b L : Nat} {xs : Nat → Int32} {hX : Nat} {qX : Nat → Nat} {cX : Nat → ClassId} {hM : Nat} {qM : Nat → Nat} {cM : Nat → ClassId} (l : Launch) (C0 : LC p m c s args D b L xs hX qX cX hM qM cM) {i : Nat} (hi : i + 4 ≤ L) {G : GS} {Lx K : Nat → Nat} {hs : Int64} (hG : ok G) (kk : ∀ (G' : GS) (L' K' : Nat → Nat) (hs' : Int64), ok G' → LV p l e s m args below meth c Q D b hX qX cX hM qM cM i (G', L') (G', K', hs') 684 []) : LV p l e s m args below meth c Q D b hX qX cX hM qM cM i (G, Lx) (G, K, hs) 466 [] := by
  obtain ⟨F, hKX, hKM, aX1, aM1, hXs, hbl, hL⟩ := C0
  unfold LV at *
  refine x_aload_n (pc := 466) F dL_law_466 1 rfl rfl ?_
  refine x_aload_n (pc := 467) F dL_law_467 0 rfl rfl ?_
  refine x_iload_n (pc := 468) F dL_law_468 3 rfl rfl ?_
  refine x_iconst (v := nI 1) (pc := 469) F dL_law_469 (by decide) ?_
  refine x_iadd (z := nI (i + 1)) (pc := 470) F dL_law_470 (nI_add _ _) ?_
  refine y_sld (pc := 471) F hXs hbl hL (by omega) dL_law_471 ?_
  refine y_calli (w := wX) (ty := tX) (pc := 472) F hKX wX_in aX1 rfl rfl [.int (xs (i + 1))] [] (c_X0_describeCall l G Lx (xs (i + 1)) hG) (cwV 1 F.2.2.2.2 gL_law_X0_describeCall rfl rfl rfl (by decide +kernel) ⟨Nat.le_of_ble_eq_true rfl, Nat.le_of_ble_eq_true rfl⟩) rfl rfl rfl rfl (Nat.le_of_ble_eq_true rfl) dL_law_472 ⟨Nat.le_of_ble_eq_true rfl, Nat.le_of_ble_eq_true rfl⟩ ?_
  rintro _ _ ⟨rfl, rfl⟩
  refine x_aload_n (pc := 475) F dL_law_475 2 rfl rfl ?_
  refine x_aload_n (pc := 476) F dL_law_476 0 rfl rfl ?_
  refine x_iload_n (pc := 477) F dL_law_477 3 rfl rfl ?_
  refine x_iconst (v := nI 1) (pc := 478) F dL_law_478 (by decide) ?_
  refine x_iadd (z := nI (i + 1)) (pc := 479) F dL_law_479 (nI_add _ _) ?_
  refine y_sld (pc := 480) F hXs hbl hL (by omega) dL_law_480 ?_
  refine y_calli (w := wM) (ty := tM) (pc := 481) F hKM wM_in aM1 rfl rfl [.int (xs (i + 1))] [_] (c_X1_describeCall l G K hs (xs (i + 1)) hG) (cwV 1 F.2.2.2.2 gL_law_X1_describeCall rfl rfl rfl (by decide +kernel) ⟨Nat.le_of_ble_eq_true rfl, Nat.le_of_ble_eq_true rfl⟩) rfl rfl rfl rfl (Nat.le_of_ble_eq_true rfl) dL_law_481 ⟨Nat.le_of_ble_eq_true rfl, Nat.le_of_ble_eq_true rfl⟩ ?_
  rintro _ _ ⟨rfl, rfl⟩
  refine x_icmp_eq (tgt := 684) (pc := 484) F dL_law_484 (by decide) (fun _ => ?_) (fun hv => absurd rfl hv)
  exact kk G Lx K hs (hG)
set_option maxHeartbeats 4000000 in
set_option maxRecDepth 100000 in
theorem lc_knowledge {p : Program} {e : Env} {s : State} {m : MethodId} {args : Array Value} {below : List Frame} {meth : Method} {c : Code} {Q : State → Prop} {D : va_G} {b L : Nat} {xs : Nat → Int32} {hX : Nat} {qX : Nat → Nat} {cX : Nat → ClassId} {hM : Nat} {qM : Nat → Nat} {cM : Nat → ClassId} (l : Launch) (C0 : LC p m c s args D b L xs hX qX cX hM qM cM) {i : Nat} (hi : i + 4 ≤ L) {G : GS} {Lx K : Nat → Nat} {hs : Int64} (hG : ok G) (kk : ∀ (G' : GS) (L' K' : Nat → Nat) (hs' : Int64), ok G' → LV p l e s m args below meth c Q D b hX qX cX hM qM cM i (G', L') (G', K', hs') 684 []) : LV p l e s m args below meth c Q D b hX qX cX hM qM cM i (G, Lx) (G, K, hs) 489 [] := by
  obtain ⟨F, hKX, hKM, aX1, aM1, hXs, hbl, hL⟩ := C0
  unfold LV at *
  refine x_aload_n (pc := 489) F dL_law_489 1 rfl rfl ?_
  refine x_aload_n (pc := 490) F dL_law_490 0 rfl rfl ?_
  refine x_iload_n (pc := 491) F dL_law_491 3 rfl rfl ?_
  refine x_iconst (v := nI 1) (pc := 492) F dL_law_492 (by decide) ?_
  refine x_iadd (z := nI (i + 1)) (pc := 493) F dL_law_493 (nI_add _ _) ?_
  refine y_sld (pc := 494) F hXs hbl hL (by omega) dL_law_494 ?_
  refine x_aload_n (pc := 495) F dL_law_495 0 rfl rfl ?_
  refine x_iload_n (pc := 496) F dL_law_496 3 rfl rfl ?_
  refine x_iconst (v := nI 2) (pc := 497) F dL_law_497 (by decide) ?_
  refine x_iadd (z := nI (i + 2)) (pc := 498) F dL_law_498 (nI_add _ _) ?_
  refine y_sld (pc := 499) F hXs hbl hL (by omega) dL_law_499 ?_
  refine y_calli (w := wX) (ty := tX) (pc := 500) F hKX wX_in aX1 rfl rfl [.int (xs (i + 1)), .int (xs (i + 2))] [] (c_X0_knowledge l G Lx (xs (i + 1)) (xs (i + 2)) hG) (cwV 2 F.2.2.2.2 gL_law_X0_knowledge rfl rfl rfl (by decide +kernel) ⟨Nat.le_of_ble_eq_true rfl, Nat.le_of_ble_eq_true rfl⟩) rfl rfl rfl rfl (Nat.le_of_ble_eq_true rfl) dL_law_500 ⟨Nat.le_of_ble_eq_true rfl, Nat.le_of_ble_eq_true rfl⟩ ?_
  rintro _ _ ⟨rfl, rfl⟩
  refine x_aload_n (pc := 503) F dL_law_503 2 rfl rfl ?_
  refine x_aload_n (pc := 504) F dL_law_504 0 rfl rfl ?_
  refine x_iload_n (pc := 505) F dL_law_505 3 rfl rfl ?_
  refine x_iconst (v := nI 1) (pc := 506) F dL_law_506 (by decide) ?_
  refine x_iadd (z := nI (i + 1)) (pc := 507) F dL_law_507 (nI_add _ _) ?_
  refine y_sld (pc := 508) F hXs hbl hL (by omega) dL_law_508 ?_
  refine x_aload_n (pc := 509) F dL_law_509 0 rfl rfl ?_
  refine x_iload_n (pc := 510) F dL_law_510 3 rfl rfl ?_
  refine x_iconst (v := nI 2) (pc := 511) F dL_law_511 (by decide) ?_
  refine x_iadd (z := nI (i + 2)) (pc := 512) F dL_law_512 (nI_add _ _) ?_
  refine y_sld (pc := 513) F hXs hbl hL (by omega) dL_law_513 ?_
  refine y_calli (w := wM) (ty := tM) (pc := 514) F hKM wM_in aM1 rfl rfl [.int (xs (i + 1)), .int (xs (i + 2))] [_] (c_X1_knowledge l G K hs (xs (i + 1)) (xs (i + 2)) hG) (cwV 2 F.2.2.2.2 gL_law_X1_knowledge rfl rfl rfl (by decide +kernel) ⟨Nat.le_of_ble_eq_true rfl, Nat.le_of_ble_eq_true rfl⟩) rfl rfl rfl rfl (Nat.le_of_ble_eq_true rfl) dL_law_514 ⟨Nat.le_of_ble_eq_true rfl, Nat.le_of_ble_eq_true rfl⟩ ?_
  rintro _ _ ⟨K2, rfl, rfl⟩
  refine x_icmp_eq (tgt := 684) (pc := 517) F dL_law_517 (by decide) (fun _ => ?_) (fun hv => absurd rfl hv)
  exact kk G Lx K2 hs (hG)
set_option maxHeartbeats 4000000 in
set_option maxRecDepth 100000 in
theorem lc_completeAfter {p : Program} {e : Env} {s : State} {m : MethodId} {args : Array Value} {below : List Frame} {meth : Method} {c : Code} {Q : State → Prop} {D : va_G} {b L : Nat} {xs : Nat → Int32} {hX : Nat} {qX : Nat → Nat} {cX : Nat → ClassId} {hM : Nat} {qM : Nat → Nat} {cM : Nat → ClassId} (l : Launch) (C0 : LC p m c s args D b L xs hX qX cX hM qM cM) {i : Nat} (hi : i + 4 ≤ L) {G : GS} {Lx K : Nat → Nat} {hs : Int64} (hG : ok G) (kk : ∀ (G' : GS) (L' K' : Nat → Nat) (hs' : Int64), ok G' → LV p l e s m args below meth c Q D b hX qX cX hM qM cM i (G', L') (G', K', hs') 684 []) : LV p l e s m args below meth c Q D b hX qX cX hM qM cM i (G, Lx) (G, K, hs) 522 [] := by
  obtain ⟨F, hKX, hKM, aX1, aM1, hXs, hbl, hL⟩ := C0
  unfold LV at *
  refine x_aload_n (pc := 522) F dL_law_522 1 rfl rfl ?_
  refine y_calli (w := wX) (ty := tX) (pc := 523) F hKX wX_in aX1 rfl rfl [] [] (c_X0_completeAfter l G Lx hG) (cwV 0 F.2.2.2.2 gL_law_X0_completeAfter rfl rfl rfl (by decide +kernel) ⟨Nat.le_of_ble_eq_true rfl, Nat.le_of_ble_eq_true rfl⟩) rfl rfl rfl rfl (Nat.le_of_ble_eq_true rfl) dL_law_523 ⟨Nat.le_of_ble_eq_true rfl, Nat.le_of_ble_eq_true rfl⟩ ?_
  rintro _ _ ⟨rfl, rfl⟩
  refine x_aload_n (pc := 526) F dL_law_526 2 rfl rfl ?_
  refine y_calli (w := wM) (ty := tM) (pc := 527) F hKM wM_in aM1 rfl rfl [] [_] (c_X1_completeAfter l G K hs hG) (cwV 0 F.2.2.2.2 gL_law_X1_completeAfter rfl rfl rfl (by decide +kernel) ⟨Nat.le_of_ble_eq_true rfl, Nat.le_of_ble_eq_true rfl⟩) rfl rfl rfl rfl (Nat.le_of_ble_eq_true rfl) dL_law_527 ⟨Nat.le_of_ble_eq_true rfl, Nat.le_of_ble_eq_true rfl⟩ ?_
  rintro _ _ ⟨K2, rfl, rfl⟩
  refine x_icmp_eq (tgt := 684) (pc := 530) F dL_law_530 (by decide) (fun _ => ?_) (fun hv => absurd rfl hv)
  exact kk G Lx K2 hs (hG)
set_option maxHeartbeats 4000000 in
set_option maxRecDepth 100000 in
theorem lc_redundantCalls {p : Program} {e : Env} {s : State} {m : MethodId} {args : Array Value} {below : List Frame} {meth : Method} {c : Code} {Q : State → Prop} {D : va_G} {b L : Nat} {xs : Nat → Int32} {hX : Nat} {qX : Nat → Nat} {cX : Nat → ClassId} {hM : Nat} {qM : Nat → Nat} {cM : Nat → ClassId} (l : Launch) (C0 : LC p m c s args D b L xs hX qX cX hM qM cM) {i : Nat} (hi : i + 4 ≤ L) {G : GS} {Lx K : Nat → Nat} {hs : Int64} (hG : ok G) (kk : ∀ (G' : GS) (L' K' : Nat → Nat) (hs' : Int64), ok G' → LV p l e s m args below meth c Q D b hX qX cX hM qM cM i (G', L') (G', K', hs') 684 []) : LV p l e s m args below meth c Q D b hX qX cX hM qM cM i (G, Lx) (G, K, hs) 535 [] := by
  obtain ⟨F, hKX, hKM, aX1, aM1, hXs, hbl, hL⟩ := C0
  unfold LV at *
  refine x_aload_n (pc := 535) F dL_law_535 1 rfl rfl ?_
  refine y_calli (w := wX) (ty := tX) (pc := 536) F hKX wX_in aX1 rfl rfl [] [] (c_X0_redundantCalls l G Lx hG) (cwV 0 F.2.2.2.2 gL_law_X0_redundantCalls rfl rfl rfl (by decide +kernel) ⟨Nat.le_of_ble_eq_true rfl, Nat.le_of_ble_eq_true rfl⟩) rfl rfl rfl rfl (Nat.le_of_ble_eq_true rfl) dL_law_536 ⟨Nat.le_of_ble_eq_true rfl, Nat.le_of_ble_eq_true rfl⟩ ?_
  rintro _ _ ⟨rfl, rfl⟩
  refine x_aload_n (pc := 539) F dL_law_539 2 rfl rfl ?_
  refine y_calli (w := wM) (ty := tM) (pc := 540) F hKM wM_in aM1 rfl rfl [] [_] (c_X1_redundantCalls l G K hs hG) (cwV 0 F.2.2.2.2 gL_law_X1_redundantCalls rfl rfl rfl (by decide +kernel) ⟨Nat.le_of_ble_eq_true rfl, Nat.le_of_ble_eq_true rfl⟩) rfl rfl rfl rfl (Nat.le_of_ble_eq_true rfl) dL_law_540 ⟨Nat.le_of_ble_eq_true rfl, Nat.le_of_ble_eq_true rfl⟩ ?_
  rintro _ _ ⟨K2, rfl, rfl⟩
  refine x_icmp_eq (tgt := 684) (pc := 543) F dL_law_543 (by decide) (fun _ => ?_) (fun hv => absurd rfl hv)
  exact kk G Lx K2 hs (hG)
