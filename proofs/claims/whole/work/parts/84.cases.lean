/-! ===== part 84: cases of the law's switch ===== -/
set_option maxHeartbeats 4000000 in
set_option maxRecDepth 100000 in
theorem lc_clearInput {p : Program} {e : Env} {s : State} {m : MethodId} {args : Array Value} {below : List Frame} {meth : Method} {c : Code} {Q : State → Prop} {D : va_G} {b L : Nat} {xs : Nat → Int32} {hX : Nat} {qX : Nat → Nat} {cX : Nat → ClassId} {hM : Nat} {qM : Nat → Nat} {cM : Nat → ClassId} (l : Launch) (C0 : LC p m c s args D b L xs hX qX cX hM qM cM) {i : Nat} (hi : i + 4 ≤ L) {G : GS} {Lx K : Nat → Nat} {hs : Int64} (hG : ok G) (kk : ∀ (G' : GS) (L' K' : Nat → Nat) (hs' : Int64), ok G' → LV p l e s m args below meth c Q D b hX qX cX hM qM cM i (G', L') (G', K', hs') 684 []) : LV p l e s m args below meth c Q D b hX qX cX hM qM cM i (G, Lx) (G, K, hs) 349 [] := by
  obtain ⟨F, hKX, hKM, aX1, aM1, hXs, hbl, hL⟩ := C0
  unfold LV at *
  refine x_aload_n (pc := 349) F dL_law_349 1 rfl rfl ?_
  refine y_calli (w := wX) (ty := tX) (pc := 350) F hKX wX_in aX1 rfl rfl [] [] (c_X0_clearInput l G Lx ) (cwV 0 F.2.2.2.2 gL_law_X0_clearInput rfl rfl rfl (by decide +kernel) ⟨Nat.le_of_ble_eq_true rfl, Nat.le_of_ble_eq_true rfl⟩) rfl rfl rfl rfl (Nat.le_of_ble_eq_true rfl) dL_law_350 ⟨Nat.le_of_ble_eq_true rfl, Nat.le_of_ble_eq_true rfl⟩ ?_
  rintro _ _ ⟨rfl, rfl⟩
  refine x_aload_n (pc := 353) F dL_law_353 2 rfl rfl ?_
  refine y_calli (w := wM) (ty := tM) (pc := 354) F hKM wM_in aM1 rfl rfl [] [_] (c_X1_clearInput l G K hs ) (cwV 0 F.2.2.2.2 gL_law_X1_clearInput rfl rfl rfl (by decide +kernel) ⟨Nat.le_of_ble_eq_true rfl, Nat.le_of_ble_eq_true rfl⟩) rfl rfl rfl rfl (Nat.le_of_ble_eq_true rfl) dL_law_354 ⟨Nat.le_of_ble_eq_true rfl, Nat.le_of_ble_eq_true rfl⟩ ?_
  rintro _ _ ⟨rfl, rfl⟩
  refine x_icmp_eq (tgt := 684) (pc := 357) F dL_law_357 (by decide) (fun _ => ?_) (fun hv => absurd rfl hv)
  exact kk (up G 10 0 0) Lx K hs (ok_in0 hG)
set_option maxHeartbeats 4000000 in
set_option maxRecDepth 100000 in
theorem lc_firstError {p : Program} {e : Env} {s : State} {m : MethodId} {args : Array Value} {below : List Frame} {meth : Method} {c : Code} {Q : State → Prop} {D : va_G} {b L : Nat} {xs : Nat → Int32} {hX : Nat} {qX : Nat → Nat} {cX : Nat → ClassId} {hM : Nat} {qM : Nat → Nat} {cM : Nat → ClassId} (l : Launch) (C0 : LC p m c s args D b L xs hX qX cX hM qM cM) {i : Nat} (hi : i + 4 ≤ L) {G : GS} {Lx K : Nat → Nat} {hs : Int64} (hG : ok G) (kk : ∀ (G' : GS) (L' K' : Nat → Nat) (hs' : Int64), ok G' → LV p l e s m args below meth c Q D b hX qX cX hM qM cM i (G', L') (G', K', hs') 684 []) : LV p l e s m args below meth c Q D b hX qX cX hM qM cM i (G, Lx) (G, K, hs) 362 [] := by
  obtain ⟨F, hKX, hKM, aX1, aM1, hXs, hbl, hL⟩ := C0
  unfold LV at *
  refine x_aload_n (pc := 362) F dL_law_362 1 rfl rfl ?_
  refine y_calli (w := wX) (ty := tX) (pc := 363) F hKX wX_in aX1 rfl rfl [] [] (c_X0_firstError l G Lx hG) (cwV 0 F.2.2.2.2 gL_law_X0_firstError rfl rfl rfl (by decide +kernel) ⟨Nat.le_of_ble_eq_true rfl, Nat.le_of_ble_eq_true rfl⟩) rfl rfl rfl rfl (Nat.le_of_ble_eq_true rfl) dL_law_363 ⟨Nat.le_of_ble_eq_true rfl, Nat.le_of_ble_eq_true rfl⟩ ?_
  rintro _ _ ⟨rfl, rfl⟩
  refine x_aload_n (pc := 366) F dL_law_366 2 rfl rfl ?_
  refine y_calli (w := wM) (ty := tM) (pc := 367) F hKM wM_in aM1 rfl rfl [] [_] (c_X1_firstError l G K hs hG) (cwV 0 F.2.2.2.2 gL_law_X1_firstError rfl rfl rfl (by decide +kernel) ⟨Nat.le_of_ble_eq_true rfl, Nat.le_of_ble_eq_true rfl⟩) rfl rfl rfl rfl (Nat.le_of_ble_eq_true rfl) dL_law_367 ⟨Nat.le_of_ble_eq_true rfl, Nat.le_of_ble_eq_true rfl⟩ ?_
  rintro _ _ ⟨rfl, rfl⟩
  refine x_icmp_eq (tgt := 684) (pc := 370) F dL_law_370 (by decide) (fun _ => ?_) (fun hv => absurd rfl hv)
  exact kk G Lx K hs (hG)
set_option maxHeartbeats 4000000 in
set_option maxRecDepth 100000 in
theorem lc_load {p : Program} {e : Env} {s : State} {m : MethodId} {args : Array Value} {below : List Frame} {meth : Method} {c : Code} {Q : State → Prop} {D : va_G} {b L : Nat} {xs : Nat → Int32} {hX : Nat} {qX : Nat → Nat} {cX : Nat → ClassId} {hM : Nat} {qM : Nat → Nat} {cM : Nat → ClassId} (l : Launch) (C0 : LC p m c s args D b L xs hX qX cX hM qM cM) {i : Nat} (hi : i + 4 ≤ L) {G : GS} {Lx K : Nat → Nat} {hs : Int64} (hG : ok G) (kk : ∀ (G' : GS) (L' K' : Nat → Nat) (hs' : Int64), ok G' → LV p l e s m args below meth c Q D b hX qX cX hM qM cM i (G', L') (G', K', hs') 684 []) : LV p l e s m args below meth c Q D b hX qX cX hM qM cM i (G, Lx) (G, K, hs) 375 [] := by
  obtain ⟨F, hKX, hKM, aX1, aM1, hXs, hbl, hL⟩ := C0
  unfold LV at *
  refine x_aload_n (pc := 375) F dL_law_375 1 rfl rfl ?_
  refine y_calli (w := wX) (ty := tX) (pc := 376) F hKX wX_in aX1 rfl rfl [] [] (c_X0_load l G Lx hG) (cwV 0 F.2.2.2.2 gL_law_X0_load rfl rfl rfl (by decide +kernel) ⟨Nat.le_of_ble_eq_true rfl, Nat.le_of_ble_eq_true rfl⟩) rfl rfl rfl rfl (Nat.le_of_ble_eq_true rfl) dL_law_376 ⟨Nat.le_of_ble_eq_true rfl, Nat.le_of_ble_eq_true rfl⟩ ?_
  rintro _ _ ⟨rfl, rfl⟩
  refine x_aload_n (pc := 379) F dL_law_379 2 rfl rfl ?_
  refine y_calli (w := wM) (ty := tM) (pc := 380) F hKM wM_in aM1 rfl rfl [] [_] (c_X1_load l G K hs hG) (cwV 0 F.2.2.2.2 gL_law_X1_load rfl rfl rfl (by decide +kernel) ⟨Nat.le_of_ble_eq_true rfl, Nat.le_of_ble_eq_true rfl⟩) rfl rfl rfl rfl (Nat.le_of_ble_eq_true rfl) dL_law_380 ⟨Nat.le_of_ble_eq_true rfl, Nat.le_of_ble_eq_true rfl⟩ ?_
  rintro _ _ ⟨rfl, rfl⟩
  refine x_icmp_eq (tgt := 684) (pc := 383) F dL_law_383 (by decide) (fun _ => ?_) (fun hv => absurd rfl hv)
  exact kk (sg_load G) Lx K hs (ok_load hG)
set_option maxHeartbeats 4000000 in
set_option maxRecDepth 100000 in
theorem lc_buildDoubling {p : Program} {e : Env} {s : State} {m : MethodId} {args : Array Value} {below : List Frame} {meth : Method} {c : Code} {Q : State → Prop} {D : va_G} {b L : Nat} {xs : Nat → Int32} {hX : Nat} {qX : Nat → Nat} {cX : Nat → ClassId} {hM : Nat} {qM : Nat → Nat} {cM : Nat → ClassId} (l : Launch) (C0 : LC p m c s args D b L xs hX qX cX hM qM cM) {i : Nat} (hi : i + 4 ≤ L) {G : GS} {Lx K : Nat → Nat} {hs : Int64} (hG : ok G) (kk : ∀ (G' : GS) (L' K' : Nat → Nat) (hs' : Int64), ok G' → LV p l e s m args below meth c Q D b hX qX cX hM qM cM i (G', L') (G', K', hs') 684 []) : LV p l e s m args below meth c Q D b hX qX cX hM qM cM i (G, Lx) (G, K, hs) 388 [] := by
  obtain ⟨F, hKX, hKM, aX1, aM1, hXs, hbl, hL⟩ := C0
  unfold LV at *
  refine x_aload_n (pc := 388) F dL_law_388 1 rfl rfl ?_
  refine y_calli (w := wX) (ty := tX) (pc := 389) F hKX wX_in aX1 rfl rfl [] [] (c_X0_buildDoubling l G Lx hG) (cwV 0 F.2.2.2.2 gL_law_X0_buildDoubling rfl rfl rfl (by decide +kernel) ⟨Nat.le_of_ble_eq_true rfl, Nat.le_of_ble_eq_true rfl⟩) rfl rfl rfl rfl (Nat.le_of_ble_eq_true rfl) dL_law_389 ⟨Nat.le_of_ble_eq_true rfl, Nat.le_of_ble_eq_true rfl⟩ ?_
  rintro _ _ ⟨rfl, rfl⟩
  refine x_aload_n (pc := 392) F dL_law_392 2 rfl rfl ?_
  refine y_calli (w := wM) (ty := tM) (pc := 393) F hKM wM_in aM1 rfl rfl [] [_] (c_X1_buildDoubling l G K hs hG) (cwV 0 F.2.2.2.2 gL_law_X1_buildDoubling rfl rfl rfl (by decide +kernel) ⟨Nat.le_of_ble_eq_true rfl, Nat.le_of_ble_eq_true rfl⟩) rfl rfl rfl rfl (Nat.le_of_ble_eq_true rfl) dL_law_393 ⟨Nat.le_of_ble_eq_true rfl, Nat.le_of_ble_eq_true rfl⟩ ?_
  rintro _ _ ⟨rfl, rfl⟩
  refine x_icmp_eq (tgt := 684) (pc := 396) F dL_law_396 (by decide) (fun _ => ?_) (fun hv => absurd rfl hv)
  exact kk (sg_dbl G) Lx K hs (ok_dbl hG)
set_option maxHeartbeats 4000000 in
set_option maxRecDepth 100000 in
theorem lc_buildFourCore {p : Program} {e : Env} {s : State} {m : MethodId} {args : Array Value} {below : List Frame} {meth : Method} {c : Code} {Q : State → Prop} {D : va_G} {b L : Nat} {xs : Nat → Int32} {hX : Nat} {qX : Nat → Nat} {cX : Nat → ClassId} {hM : Nat} {qM : Nat → Nat} {cM : Nat → ClassId} (l : Launch) (C0 : LC p m c s args D b L xs hX qX cX hM qM cM) {i : Nat} (hi : i + 4 ≤ L) {G : GS} {Lx K : Nat → Nat} {hs : Int64} (hG : ok G) (kk : ∀ (G' : GS) (L' K' : Nat → Nat) (hs' : Int64), ok G' → LV p l e s m args below meth c Q D b hX qX cX hM qM cM i (G', L') (G', K', hs') 684 []) : LV p l e s m args below meth c Q D b hX qX cX hM qM cM i (G, Lx) (G, K, hs) 401 [] := by
  obtain ⟨F, hKX, hKM, aX1, aM1, hXs, hbl, hL⟩ := C0
  unfold LV at *
  refine x_aload_n (pc := 401) F dL_law_401 1 rfl rfl ?_
  refine y_calli (w := wX) (ty := tX) (pc := 402) F hKX wX_in aX1 rfl rfl [] [] (c_X0_buildFourCore l G Lx hG) (cwV 0 F.2.2.2.2 gL_law_X0_buildFourCore rfl rfl rfl (by decide +kernel) ⟨Nat.le_of_ble_eq_true rfl, Nat.le_of_ble_eq_true rfl⟩) rfl rfl rfl rfl (Nat.le_of_ble_eq_true rfl) dL_law_402 ⟨Nat.le_of_ble_eq_true rfl, Nat.le_of_ble_eq_true rfl⟩ ?_
  rintro _ _ ⟨rfl, rfl⟩
  refine x_aload_n (pc := 405) F dL_law_405 2 rfl rfl ?_
  refine y_calli (w := wM) (ty := tM) (pc := 406) F hKM wM_in aM1 rfl rfl [] [_] (c_X1_buildFourCore l G K hs hG) (cwV 0 F.2.2.2.2 gL_law_X1_buildFourCore rfl rfl rfl (by decide +kernel) ⟨Nat.le_of_ble_eq_true rfl, Nat.le_of_ble_eq_true rfl⟩) rfl rfl rfl rfl (Nat.le_of_ble_eq_true rfl) dL_law_406 ⟨Nat.le_of_ble_eq_true rfl, Nat.le_of_ble_eq_true rfl⟩ ?_
  rintro _ _ ⟨rfl, rfl⟩
  refine x_icmp_eq (tgt := 684) (pc := 409) F dL_law_409 (by decide) (fun _ => ?_) (fun hv => absurd rfl hv)
  exact kk (sg_fc G) Lx K hs (ok_fc hG)
set_option maxHeartbeats 4000000 in
set_option maxRecDepth 100000 in
theorem lc_buildGatherSpread {p : Program} {e : Env} {s : State} {m : MethodId} {args : Array Value} {below : List Frame} {meth : Method} {c : Code} {Q : State → Prop} {D : va_G} {b L : Nat} {xs : Nat → Int32} {hX : Nat} {qX : Nat → Nat} {cX : Nat → ClassId} {hM : Nat} {qM : Nat → Nat} {cM : Nat → ClassId} (l : Launch) (C0 : LC p m c s args D b L xs hX qX cX hM qM cM) {i : Nat} (hi : i + 4 ≤ L) {G : GS} {Lx K : Nat → Nat} {hs : Int64} (hG : ok G) (kk : ∀ (G' : GS) (L' K' : Nat → Nat) (hs' : Int64), ok G' → LV p l e s m args below meth c Q D b hX qX cX hM qM cM i (G', L') (G', K', hs') 684 []) : LV p l e s m args below meth c Q D b hX qX cX hM qM cM i (G, Lx) (G, K, hs) 414 [] := by
  obtain ⟨F, hKX, hKM, aX1, aM1, hXs, hbl, hL⟩ := C0
  unfold LV at *
  refine x_aload_n (pc := 414) F dL_law_414 1 rfl rfl ?_
  refine y_calli (w := wX) (ty := tX) (pc := 415) F hKX wX_in aX1 rfl rfl [] [] (c_X0_buildGatherSpread l G Lx hG) (cwV 0 F.2.2.2.2 gL_law_X0_buildGatherSpread rfl rfl rfl (by decide +kernel) ⟨Nat.le_of_ble_eq_true rfl, Nat.le_of_ble_eq_true rfl⟩) rfl rfl rfl rfl (Nat.le_of_ble_eq_true rfl) dL_law_415 ⟨Nat.le_of_ble_eq_true rfl, Nat.le_of_ble_eq_true rfl⟩ ?_
  rintro _ _ ⟨rfl, rfl⟩
  refine x_aload_n (pc := 418) F dL_law_418 2 rfl rfl ?_
  refine y_calli (w := wM) (ty := tM) (pc := 419) F hKM wM_in aM1 rfl rfl [] [_] (c_X1_buildGatherSpread l G K hs hG) (cwV 0 F.2.2.2.2 gL_law_X1_buildGatherSpread rfl rfl rfl (by decide +kernel) ⟨Nat.le_of_ble_eq_true rfl, Nat.le_of_ble_eq_true rfl⟩) rfl rfl rfl rfl (Nat.le_of_ble_eq_true rfl) dL_law_419 ⟨Nat.le_of_ble_eq_true rfl, Nat.le_of_ble_eq_true rfl⟩ ?_
  rintro _ _ ⟨rfl, rfl⟩
  refine x_icmp_eq (tgt := 684) (pc := 422) F dL_law_422 (by decide) (fun _ => ?_) (fun hv => absurd rfl hv)
  exact kk (sg_gs G) Lx K hs (ok_gs hG)
set_option maxHeartbeats 4000000 in
set_option maxRecDepth 100000 in
theorem lc_personCount {p : Program} {e : Env} {s : State} {m : MethodId} {args : Array Value} {below : List Frame} {meth : Method} {c : Code} {Q : State → Prop} {D : va_G} {b L : Nat} {xs : Nat → Int32} {hX : Nat} {qX : Nat → Nat} {cX : Nat → ClassId} {hM : Nat} {qM : Nat → Nat} {cM : Nat → ClassId} (l : Launch) (C0 : LC p m c s args D b L xs hX qX cX hM qM cM) {i : Nat} (hi : i + 4 ≤ L) {G : GS} {Lx K : Nat → Nat} {hs : Int64} (hG : ok G) (kk : ∀ (G' : GS) (L' K' : Nat → Nat) (hs' : Int64), ok G' → LV p l e s m args below meth c Q D b hX qX cX hM qM cM i (G', L') (G', K', hs') 684 []) : LV p l e s m args below meth c Q D b hX qX cX hM qM cM i (G, Lx) (G, K, hs) 427 [] := by
  obtain ⟨F, hKX, hKM, aX1, aM1, hXs, hbl, hL⟩ := C0
  unfold LV at *
  refine x_aload_n (pc := 427) F dL_law_427 1 rfl rfl ?_
  refine y_calli (w := wX) (ty := tX) (pc := 428) F hKX wX_in aX1 rfl rfl [] [] (c_X0_personCount l G Lx ) (cwV 0 F.2.2.2.2 gL_law_X0_personCount rfl rfl rfl (by decide +kernel) ⟨Nat.le_of_ble_eq_true rfl, Nat.le_of_ble_eq_true rfl⟩) rfl rfl rfl rfl (Nat.le_of_ble_eq_true rfl) dL_law_428 ⟨Nat.le_of_ble_eq_true rfl, Nat.le_of_ble_eq_true rfl⟩ ?_
  rintro _ _ ⟨rfl, rfl⟩
  refine x_aload_n (pc := 431) F dL_law_431 2 rfl rfl ?_
  refine y_calli (w := wM) (ty := tM) (pc := 432) F hKM wM_in aM1 rfl rfl [] [_] (c_X1_personCount l G K hs ) (cwV 0 F.2.2.2.2 gL_law_X1_personCount rfl rfl rfl (by decide +kernel) ⟨Nat.le_of_ble_eq_true rfl, Nat.le_of_ble_eq_true rfl⟩) rfl rfl rfl rfl (Nat.le_of_ble_eq_true rfl) dL_law_432 ⟨Nat.le_of_ble_eq_true rfl, Nat.le_of_ble_eq_true rfl⟩ ?_
  rintro _ _ ⟨rfl, rfl⟩
  refine x_icmp_eq (tgt := 684) (pc := 435) F dL_law_435 (by decide) (fun _ => ?_) (fun hv => absurd rfl hv)
  exact kk G Lx K hs (hG)
