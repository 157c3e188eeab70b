/-! ===== part 86: cases of the law's switch ===== -/
set_option maxHeartbeats 4000000 in
set_option maxRecDepth 100000 in
theorem lc_averageKnowledge {p : Program} {e : Env} {s : State} {m : MethodId} {args : Array Value} {below : List Frame} {meth : Method} {c : Code} {Q : State → Prop} {D : va_G} {b L : Nat} {xs : Nat → Int32} {hX : Nat} {qX : Nat → Nat} {cX : Nat → ClassId} {hM : Nat} {qM : Nat → Nat} {cM : Nat → ClassId} (l : Launch) (C0 : LC p m c s args D b L xs hX qX cX hM qM cM) {i : Nat} (hi : i + 4 ≤ L) {G : GS} {Lx K : Nat → Nat} {hs : Int64} (hG : ok G) (kk : ∀ (G' : GS) (L' K' : Nat → Nat) (hs' : Int64), ok G' → LV p l e s m args below meth c Q D b hX qX cX hM qM cM i (G', L') (G', K', hs') 684 []) : LV p l e s m args below meth c Q D b hX qX cX hM qM cM i (G, Lx) (G, K, hs) 548 [] := by
  obtain ⟨F, hKX, hKM, aX1, aM1, hXs, hbl, hL⟩ := C0
  unfold LV at *
  refine x_aload_n (pc := 548) F dL_law_548 1 rfl rfl ?_
  refine x_aload_n (pc := 549) F dL_law_549 0 rfl rfl ?_
  refine x_iload_n (pc := 550) F dL_law_550 3 rfl rfl ?_
  refine x_iconst (v := nI 1) (pc := 551) F dL_law_551 (by decide) ?_
  refine x_iadd (z := nI (i + 1)) (pc := 552) F dL_law_552 (nI_add _ _) ?_
  refine y_sld (pc := 553) F hXs hbl hL (by omega) dL_law_553 ?_
  refine y_calli (w := wX) (ty := tX) (pc := 554) F hKX wX_in aX1 rfl rfl [.int (xs (i + 1))] [] (c_X0_averageKnowledge l G Lx (xs (i + 1)) hG) (cwV 1 F.2.2.2.2 gL_law_X0_averageKnowledge rfl rfl rfl (by decide +kernel) ⟨Nat.le_of_ble_eq_true rfl, Nat.le_of_ble_eq_true rfl⟩) rfl rfl rfl rfl (Nat.le_of_ble_eq_true rfl) dL_law_554 ⟨Nat.le_of_ble_eq_true rfl, Nat.le_of_ble_eq_true rfl⟩ ?_
  rintro _ _ ⟨rfl, rfl⟩
  refine x_aload_n (pc := 557) F dL_law_557 2 rfl rfl ?_
  refine x_aload_n (pc := 558) F dL_law_558 0 rfl rfl ?_
  refine x_iload_n (pc := 559) F dL_law_559 3 rfl rfl ?_
  refine x_iconst (v := nI 1) (pc := 560) F dL_law_560 (by decide) ?_
  refine x_iadd (z := nI (i + 1)) (pc := 561) F dL_law_561 (nI_add _ _) ?_
  refine y_sld (pc := 562) F hXs hbl hL (by omega) dL_law_562 ?_
  refine y_calli (w := wM) (ty := tM) (pc := 563) F hKM wM_in aM1 rfl rfl [.int (xs (i + 1))] [_] (c_X1_averageKnowledge l G K hs (xs (i + 1)) hG) (cwV 1 F.2.2.2.2 gL_law_X1_averageKnowledge rfl rfl rfl (by decide +kernel) ⟨Nat.le_of_ble_eq_true rfl, Nat.le_of_ble_eq_true rfl⟩) rfl rfl rfl rfl (Nat.le_of_ble_eq_true rfl) dL_law_563 ⟨Nat.le_of_ble_eq_true rfl, Nat.le_of_ble_eq_true rfl⟩ ?_
  rintro _ _ ⟨K2, rfl, rfl⟩
  refine x_icmp_eq (tgt := 684) (pc := 566) F dL_law_566 (by decide) (fun _ => ?_) (fun hv => absurd rfl hv)
  exact kk G Lx K2 hs (hG)
set_option maxHeartbeats 4000000 in
set_option maxRecDepth 100000 in
theorem lc_leastCalls {p : Program} {e : Env} {s : State} {m : MethodId} {args : Array Value} {below : List Frame} {meth : Method} {c : Code} {Q : State → Prop} {D : va_G} {b L : Nat} {xs : Nat → Int32} {hX : Nat} {qX : Nat → Nat} {cX : Nat → ClassId} {hM : Nat} {qM : Nat → Nat} {cM : Nat → ClassId} (l : Launch) (C0 : LC p m c s args D b L xs hX qX cX hM qM cM) {i : Nat} (hi : i + 4 ≤ L) {G : GS} {Lx K : Nat → Nat} {hs : Int64} (hG : ok G) (kk : ∀ (G' : GS) (L' K' : Nat → Nat) (hs' : Int64), ok G' → LV p l e s m args below meth c Q D b hX qX cX hM qM cM i (G', L') (G', K', hs') 684 []) : LV p l e s m args below meth c Q D b hX qX cX hM qM cM i (G, Lx) (G, K, hs) 571 [] := by
  obtain ⟨F, hKX, hKM, aX1, aM1, hXs, hbl, hL⟩ := C0
  unfold LV at *
  refine x_aload_n (pc := 571) F dL_law_571 1 rfl rfl ?_
  refine x_aload_n (pc := 572) F dL_law_572 0 rfl rfl ?_
  refine x_iload_n (pc := 573) F dL_law_573 3 rfl rfl ?_
  refine x_iconst (v := nI 1) (pc := 574) F dL_law_574 (by decide) ?_
  refine x_iadd (z := nI (i + 1)) (pc := 575) F dL_law_575 (nI_add _ _) ?_
  refine y_sld (pc := 576) F hXs hbl hL (by omega) dL_law_576 ?_
  refine x_if_eq (tgt := 584) (pc := 577) F dL_law_577 (by decide) (fun hw => ?_) (fun hw => ?_)
  · skip
    refine x_iconst (v := nI 0) (pc := 584) F dL_law_584 (by decide) ?_
    refine y_calli (w := wX) (ty := tX) (pc := 585) F hKX wX_in aX1 rfl rfl [.int (nI 0)] [] (c_X0_leastCalls l G Lx 0 (by decide) hG) (cwV 1 F.2.2.2.2 gL_law_X0_leastCalls rfl rfl rfl (by decide +kernel) ⟨Nat.le_of_ble_eq_true rfl, Nat.le_of_ble_eq_true rfl⟩) rfl rfl rfl rfl (Nat.le_of_ble_eq_true rfl) dL_law_585 ⟨Nat.le_of_ble_eq_true rfl, Nat.le_of_ble_eq_true rfl⟩ ?_
    rintro _ _ ⟨rfl, rfl⟩
    refine x_aload_n (pc := 588) F dL_law_588 2 rfl rfl ?_
    refine x_aload_n (pc := 589) F dL_law_589 0 rfl rfl ?_
    refine x_iload_n (pc := 590) F dL_law_590 3 rfl rfl ?_
    refine x_iconst (v := nI 1) (pc := 591) F dL_law_591 (by decide) ?_
    refine x_iadd (z := nI (i + 1)) (pc := 592) F dL_law_592 (nI_add _ _) ?_
    refine y_sld (pc := 593) F hXs hbl hL (by omega) dL_law_593 ?_
    refine x_if_eq (tgt := 601) (pc := 594) F dL_law_594 (by decide) (fun _ => ?_) (fun hv => absurd hw hv)
    refine x_iconst (v := nI 0) (pc := 601) F dL_law_601 (by decide) ?_
    refine y_calli (w := wM) (ty := tM) (pc := 602) F hKM wM_in aM1 rfl rfl [.int (nI 0)] [_] (c_X1_leastCalls l G K hs 0 (by decide) hG) (cwV 1 F.2.2.2.2 gL_law_X1_leastCalls rfl rfl rfl (by decide +kernel) ⟨Nat.le_of_ble_eq_true rfl, Nat.le_of_ble_eq_true rfl⟩) rfl rfl rfl rfl (Nat.le_of_ble_eq_true rfl) dL_law_602 ⟨Nat.le_of_ble_eq_true rfl, Nat.le_of_ble_eq_true rfl⟩ ?_
    rintro _ _ ⟨rfl, rfl⟩
    refine x_icmp_eq (tgt := 684) (pc := 605) F dL_law_605 (by decide) (fun _ => ?_) (fun hv => absurd rfl hv)
    exact kk G Lx K hs (hG)
  · skip
    refine x_iconst (v := nI 1) (pc := 580) F dL_law_580 (by decide) ?_
    refine x_goto (tgt := 585) (pc := 581) F dL_law_581 (by decide) ?_
    refine y_calli (w := wX) (ty := tX) (pc := 585) F hKX wX_in aX1 rfl rfl [.int (nI 1)] [] (c_X0_leastCalls l G Lx 1 (by decide) hG) (cwV 1 F.2.2.2.2 gL_law_X0_leastCalls rfl rfl rfl (by decide +kernel) ⟨Nat.le_of_ble_eq_true rfl, Nat.le_of_ble_eq_true rfl⟩) rfl rfl rfl rfl (Nat.le_of_ble_eq_true rfl) dL_law_585 ⟨Nat.le_of_ble_eq_true rfl, Nat.le_of_ble_eq_true rfl⟩ ?_
    rintro _ _ ⟨rfl, rfl⟩
    refine x_aload_n (pc := 588) F dL_law_588 2 rfl rfl ?_
    refine x_aload_n (pc := 589) F dL_law_589 0 rfl rfl ?_
    refine x_iload_n (pc := 590) F dL_law_590 3 rfl rfl ?_
    refine x_iconst (v := nI 1) (pc := 591) F dL_law_591 (by decide) ?_
    refine x_iadd (z := nI (i + 1)) (pc := 592) F dL_law_592 (nI_add _ _) ?_
    refine y_sld (pc := 593) F hXs hbl hL (by omega) dL_law_593 ?_
    refine x_if_eq (tgt := 601) (pc := 594) F dL_law_594 (by decide) (fun hv => absurd hv hw) (fun _ => ?_)
    refine x_iconst (v := nI 1) (pc := 597) F dL_law_597 (by decide) ?_
    refine x_goto (tgt := 602) (pc := 598) F dL_law_598 (by decide) ?_
    refine y_calli (w := wM) (ty := tM) (pc := 602) F hKM wM_in aM1 rfl rfl [.int (nI 1)] [_] (c_X1_leastCalls l G K hs 1 (by decide) hG) (cwV 1 F.2.2.2.2 gL_law_X1_leastCalls rfl rfl rfl (by decide +kernel) ⟨Nat.le_of_ble_eq_true rfl, Nat.le_of_ble_eq_true rfl⟩) rfl rfl rfl rfl (Nat.le_of_ble_eq_true rfl) dL_law_602 ⟨Nat.le_of_ble_eq_true rfl, Nat.le_of_ble_eq_true rfl⟩ ?_
    rintro _ _ ⟨rfl, rfl⟩
    refine x_icmp_eq (tgt := 684) (pc := 605) F dL_law_605 (by decide) (fun _ => ?_) (fun hv => absurd rfl hv)
    exact kk G Lx K hs (hG)
set_option maxHeartbeats 4000000 in
set_option maxRecDepth 100000 in
theorem lc_isCritical {p : Program} {e : Env} {s : State} {m : MethodId} {args : Array Value} {below : List Frame} {meth : Method} {c : Code} {Q : State → Prop} {D : va_G} {b L : Nat} {xs : Nat → Int32} {hX : Nat} {qX : Nat → Nat} {cX : Nat → ClassId} {hM : Nat} {qM : Nat → Nat} {cM : Nat → ClassId} (l : Launch) (C0 : LC p m c s args D b L xs hX qX cX hM qM cM) {i : Nat} (hi : i + 4 ≤ L) {G : GS} {Lx K : Nat → Nat} {hs : Int64} (hG : ok G) (kk : ∀ (G' : GS) (L' K' : Nat → Nat) (hs' : Int64), ok G' → LV p l e s m args below meth c Q D b hX qX cX hM qM cM i (G', L') (G', K', hs') 684 []) : LV p l e s m args below meth c Q D b hX qX cX hM qM cM i (G, Lx) (G, K, hs) 610 [] := by
  obtain ⟨F, hKX, hKM, aX1, aM1, hXs, hbl, hL⟩ := C0
  unfold LV at *
  refine x_aload_n (pc := 610) F dL_law_610 1 rfl rfl ?_
  refine x_aload_n (pc := 611) F dL_law_611 0 rfl rfl ?_
  refine x_iload_n (pc := 612) F dL_law_612 3 rfl rfl ?_
  refine x_iconst (v := nI 1) (pc := 613) F dL_law_613 (by decide) ?_
  refine x_iadd (z := nI (i + 1)) (pc := 614) F dL_law_614 (nI_add _ _) ?_
  refine y_sld (pc := 615) F hXs hbl hL (by omega) dL_law_615 ?_
  refine y_calli (w := wX) (ty := tX) (pc := 616) F hKX wX_in aX1 rfl rfl [.int (xs (i + 1))] [] (c_X0_isCritical l G Lx (xs (i + 1)) hG) (cwV 1 F.2.2.2.2 gL_law_X0_isCritical rfl rfl rfl (by decide +kernel) ⟨Nat.le_of_ble_eq_true rfl, Nat.le_of_ble_eq_true rfl⟩) rfl rfl rfl rfl (Nat.le_of_ble_eq_true rfl) dL_law_616 ⟨Nat.le_of_ble_eq_true rfl, Nat.le_of_ble_eq_true rfl⟩ ?_
  rintro _ _ ⟨rfl, rfl⟩
  refine x_aload_n (pc := 619) F dL_law_619 2 rfl rfl ?_
  refine x_aload_n (pc := 620) F dL_law_620 0 rfl rfl ?_
  refine x_iload_n (pc := 621) F dL_law_621 3 rfl rfl ?_
  refine x_iconst (v := nI 1) (pc := 622) F dL_law_622 (by decide) ?_
  refine x_iadd (z := nI (i + 1)) (pc := 623) F dL_law_623 (nI_add _ _) ?_
  refine y_sld (pc := 624) F hXs hbl hL (by omega) dL_law_624 ?_
  refine y_calli (w := wM) (ty := tM) (pc := 625) F hKM wM_in aM1 rfl rfl [.int (xs (i + 1))] [_] (c_X1_isCritical l G K hs (xs (i + 1)) hG) (cwV 1 F.2.2.2.2 gL_law_X1_isCritical rfl rfl rfl (by decide +kernel) ⟨Nat.le_of_ble_eq_true rfl, Nat.le_of_ble_eq_true rfl⟩) rfl rfl rfl rfl (Nat.le_of_ble_eq_true rfl) dL_law_625 ⟨Nat.le_of_ble_eq_true rfl, Nat.le_of_ble_eq_true rfl⟩ ?_
  rintro _ _ ⟨K2, rfl, rfl⟩
  refine x_icmp_eq (tgt := 684) (pc := 628) F dL_law_628 (by decide) (fun _ => ?_) (fun hv => absurd rfl hv)
  exact kk G Lx K2 hs (hG)
set_option maxHeartbeats 4000000 in
set_option maxRecDepth 100000 in
theorem lc_smallestSufficientCalls {p : Program} {e : Env} {s : State} {m : MethodId} {args : Array Value} {below : List Frame} {meth : Method} {c : Code} {Q : State → Prop} {D : va_G} {b L : Nat} {xs : Nat → Int32} {hX : Nat} {qX : Nat → Nat} {cX : Nat → ClassId} {hM : Nat} {qM : Nat → Nat} {cM : Nat → ClassId} (l : Launch) (C0 : LC p m c s args D b L xs hX qX cX hM qM cM) {i : Nat} (hi : i + 4 ≤ L) {G : GS} {Lx K : Nat → Nat} {hs : Int64} (hG : ok G) (kk : ∀ (G' : GS) (L' K' : Nat → Nat) (hs' : Int64), ok G' → LV p l e s m args below meth c Q D b hX qX cX hM qM cM i (G', L') (G', K', hs') 684 []) : LV p l e s m args below meth c Q D b hX qX cX hM qM cM i (G, Lx) (G, K, hs) 633 [] := by
  obtain ⟨F, hKX, hKM, aX1, aM1, hXs, hbl, hL⟩ := C0
  unfold LV at *
  refine x_aload_n (pc := 633) F dL_law_633 1 rfl rfl ?_
  refine y_calli (w := wX) (ty := tX) (pc := 634) F hKX wX_in aX1 rfl rfl [] [] (c_X0_smallestSufficientCalls l G Lx hG) (cwV 0 F.2.2.2.2 gL_law_X0_smallestSufficientCalls rfl rfl rfl (by decide +kernel) ⟨Nat.le_of_ble_eq_true rfl, Nat.le_of_ble_eq_true rfl⟩) rfl rfl rfl rfl (Nat.le_of_ble_eq_true rfl) dL_law_634 ⟨Nat.le_of_ble_eq_true rfl, Nat.le_of_ble_eq_true rfl⟩ ?_
  rintro _ _ ⟨L2, rfl, rfl⟩
  refine x_aload_n (pc := 637) F dL_law_637 2 rfl rfl ?_
  refine y_calli (w := wM) (ty := tM) (pc := 638) F hKM wM_in aM1 rfl rfl [] [_] (c_X1_smallestSufficientCalls l G K hs hG) (cwV 0 F.2.2.2.2 gL_law_X1_smallestSufficientCalls rfl rfl rfl (by decide +kernel) ⟨Nat.le_of_ble_eq_true rfl, Nat.le_of_ble_eq_true rfl⟩) rfl rfl rfl rfl (Nat.le_of_ble_eq_true rfl) dL_law_638 ⟨Nat.le_of_ble_eq_true rfl, Nat.le_of_ble_eq_true rfl⟩ ?_
  rintro _ _ ⟨K2, rfl, rfl⟩
  refine x_icmp_eq (tgt := 684) (pc := 641) F dL_law_641 (by decide) (fun _ => ?_) (fun hv => absurd rfl hv)
  exact kk G L2 K2 hs (hG)
set_option maxHeartbeats 4000000 in
set_option maxRecDepth 100000 in
theorem lc_successProbability {p : Program} {e : Env} {s : State} {m : MethodId} {args : Array Value} {below : List Frame} {meth : Method} {c : Code} {Q : State → Prop} {D : va_G} {b L : Nat} {xs : Nat → Int32} {hX : Nat} {qX : Nat → Nat} {cX : Nat → ClassId} {hM : Nat} {qM : Nat → Nat} {cM : Nat → ClassId} (l : Launch) (C0 : LC p m c s args D b L xs hX qX cX hM qM cM) {i : Nat} (hi : i + 4 ≤ L) {G : GS} {Lx K : Nat → Nat} {hs : Int64} (hG : ok G) (kk : ∀ (G' : GS) (L' K' : Nat → Nat) (hs' : Int64), ok G' → LV p l e s m args below meth c Q D b hX qX cX hM qM cM i (G', L') (G', K', hs') 684 []) : LV p l e s m args below meth c Q D b hX qX cX hM qM cM i (G, Lx) (G, K, hs) 646 [] := by
  obtain ⟨F, hKX, hKM, aX1, aM1, hXs, hbl, hL⟩ := C0
  unfold LV at *
  refine x_aload_n (pc := 646) F dL_law_646 1 rfl rfl ?_
  refine x_aload_n (pc := 647) F dL_law_647 0 rfl rfl ?_
  refine x_iload_n (pc := 648) F dL_law_648 3 rfl rfl ?_
  refine x_iconst (v := nI 1) (pc := 649) F dL_law_649 (by decide) ?_
  refine x_iadd (z := nI (i + 1)) (pc := 650) F dL_law_650 (nI_add _ _) ?_
  refine y_sld (pc := 651) F hXs hbl hL (by omega) dL_law_651 ?_
  refine y_calll (w := wX) (ty := tX) (pc := 652) F hKX wX_in aX1 rfl rfl [.int (xs (i + 1))] [] (c_X0_successProbability l G Lx (xs (i + 1)) hG) (cwV 1 F.2.2.2.2 gL_law_X0_successProbability rfl rfl rfl (by decide +kernel) ⟨Nat.le_of_ble_eq_true rfl, Nat.le_of_ble_eq_true rfl⟩) rfl rfl rfl rfl (Nat.le_of_ble_eq_true rfl) dL_law_652 ⟨Nat.le_of_ble_eq_true rfl, Nat.le_of_ble_eq_true rfl⟩ ?_
  rintro _ _ ⟨L2, rfl, rfl⟩
  refine x_aload_n (pc := 655) F dL_law_655 2 rfl rfl ?_
  refine x_aload_n (pc := 656) F dL_law_656 0 rfl rfl ?_
  refine x_iload_n (pc := 657) F dL_law_657 3 rfl rfl ?_
  refine x_iconst (v := nI 1) (pc := 658) F dL_law_658 (by decide) ?_
  refine x_iadd (z := nI (i + 1)) (pc := 659) F dL_law_659 (nI_add _ _) ?_
  refine y_sld (pc := 660) F hXs hbl hL (by omega) dL_law_660 ?_
  refine y_calll (w := wM) (ty := tM) (pc := 661) F hKM wM_in aM1 rfl rfl [.int (xs (i + 1))] [_] (c_X1_successProbability l G K hs (xs (i + 1)) hG) (cwV 1 F.2.2.2.2 gL_law_X1_successProbability rfl rfl rfl (by decide +kernel) ⟨Nat.le_of_ble_eq_true rfl, Nat.le_of_ble_eq_true rfl⟩) rfl rfl rfl rfl (Nat.le_of_ble_eq_true rfl) dL_law_661 ⟨Nat.le_of_ble_eq_true rfl, Nat.le_of_ble_eq_true rfl⟩ ?_
  rintro _ _ ⟨K2, rfl, rfl⟩
  refine x_lcmp (z := 0) (pc := 664) F dL_law_664 (lgc_self _) ?_
  refine x_if_eq (tgt := 684) (pc := 665) F dL_law_665 (by decide) (fun _ => ?_) (fun hv => absurd rfl hv)
  exact kk G L2 K2 hs (hG)
set_option maxHeartbeats 4000000 in
set_option maxRecDepth 100000 in
theorem lc_digest {p : Program} {e : Env} {s : State} {m : MethodId} {args : Array Value} {below : List Frame} {meth : Method} {c : Code} {Q : State → Prop} {D : va_G} {b L : Nat} {xs : Nat → Int32} {hX : Nat} {qX : Nat → Nat} {cX : Nat → ClassId} {hM : Nat} {qM : Nat → Nat} {cM : Nat → ClassId} (l : Launch) (C0 : LC p m c s args D b L xs hX qX cX hM qM cM) {i : Nat} (hi : i + 4 ≤ L) {G : GS} {Lx K : Nat → Nat} {hs : Int64} (hG : ok G) (kk : ∀ (G' : GS) (L' K' : Nat → Nat) (hs' : Int64), ok G' → LV p l e s m args below meth c Q D b hX qX cX hM qM cM i (G', L') (G', K', hs') 684 []) : LV p l e s m args below meth c Q D b hX qX cX hM qM cM i (G, Lx) (G, K, hs) 670 [] := by
  obtain ⟨F, hKX, hKM, aX1, aM1, hXs, hbl, hL⟩ := C0
  unfold LV at *
  refine x_aload_n (pc := 670) F dL_law_670 1 rfl rfl ?_
  refine y_calll (w := wX) (ty := tX) (pc := 671) F hKX wX_in aX1 rfl rfl [] [] (c_X0_digest l G Lx hG) (cwV 0 F.2.2.2.2 gL_law_X0_digest rfl rfl rfl (by decide +kernel) ⟨Nat.le_of_ble_eq_true rfl, Nat.le_of_ble_eq_true rfl⟩) rfl rfl rfl rfl (Nat.le_of_ble_eq_true rfl) dL_law_671 ⟨Nat.le_of_ble_eq_true rfl, Nat.le_of_ble_eq_true rfl⟩ ?_
  rintro _ _ ⟨L2, rfl, rfl⟩
  refine x_aload_n (pc := 674) F dL_law_674 2 rfl rfl ?_
  refine y_calll (w := wM) (ty := tM) (pc := 675) F hKM wM_in aM1 rfl rfl [] [_] (c_X1_digest l G K hs hG) (cwV 0 F.2.2.2.2 gL_law_X1_digest rfl rfl rfl (by decide +kernel) ⟨Nat.le_of_ble_eq_true rfl, Nat.le_of_ble_eq_true rfl⟩) rfl rfl rfl rfl (Nat.le_of_ble_eq_true rfl) dL_law_675 ⟨Nat.le_of_ble_eq_true rfl, Nat.le_of_ble_eq_true rfl⟩ ?_
  rintro _ _ ⟨K2, hs2, rfl, rfl⟩
  refine x_lcmp (z := 0) (pc := 678) F dL_law_678 (lgc_self _) ?_
  refine x_if_eq (tgt := 684) (pc := 679) F dL_law_679 (by decide) (fun _ => ?_) (fun hv => absurd rfl hv)
  exact kk G L2 K2 hs2 (hG)
