set_option maxHeartbeats 4000000 in
set_option maxRecDepth 100000 in
theorem c_X0_itemsOf (l : Launch) (kn pp : Nat) (hk : kn < 2 ^ 64) (hp : pp < 8) : MSi l yX0_itemsOf wsX0_itemsOf ({ frames := 0, cells := 0, slots := 0, locals := 0 }) [.long (lN (kn)), .int (nI pp)] (fun r => r = nI (kn / 2 ^ (8 * pp) &&& 255)) := by
  refine x_sstarti (cc := cX0_itemsOf) (maxL := 3) (ret := (some .int)) (own := RX0) (by decide) rfl rfl (Nat.le_of_ble_eq_true rfl) ?_
  intro p e s m args below meth c D F hr hlk Q0 hQ0
  refine x_lv (lv' := [(0, .long (lN (kn))), (2, .int (nI pp))]) [0, 1] rfl ?_
  refine x_lload_n (pc := 0) F dX0_itemsOf_0 0 rfl rfl ?_
  refine x_bipush (v := nI 8) (pc := 1) F dX0_itemsOf_1 (by decide) ?_
  refine x_iload_n (pc := 3) F dX0_itemsOf_3 1 rfl rfl ?_
  refine x_imul (z := nI (8 * pp)) (pc := 4) F dX0_itemsOf_4 (pk_mul 8 pp) ?_
  refine x_lushr (v := lN (kn / 2 ^ (8 * pp))) (pc := 5) F dX0_itemsOf_5 (wb_shr hk (by omega)) ?_
  refine x_l2i (v := nI (kn / 2 ^ (8 * pp))) (pc := 6) F dX0_itemsOf_6 (lN_i _) ?_
  refine x_sipush (v := nI 255) (pc := 7) F dX0_itemsOf_7 (by decide) ?_
  refine x_iand (z := nI ((kn / 2 ^ (8 * pp)) &&& 255)) (pc := 10) F dX0_itemsOf_10 (nx_and (kn / 2 ^ (8 * pp)) 255) ?_
  exact x_sreti (pc := 11) F hr hlk hQ0 dX0_itemsOf_11 (rfl)
set_option maxHeartbeats 4000000 in
set_option maxRecDepth 100000 in
theorem c_X0_knownAtStart (l : Launch) (G : GS) (L : Nat → Nat) (h8 : G 0 0 ≤ 8) : MCl wX tX l yX0_knownAtStart wsX0_knownAtStart ({ frames := 0, cells := 0, slots := 0, locals := 0 }) [] (G, L) (fun r u => u = (G, L) ∧ r = lN (pkN k0 (G 0 0))) := by
  refine x_startl (cc := cX0_knownAtStart) (maxL := 4) (ret := (some .long)) (own := RX0) (by decide) rfl rfl (fun _ => Nat.le_of_ble_eq_true rfl) ?_
  intro p e s m args below meth c D h q cs F hK hr hlk Q0 hQ0
  refine x_lv (lv' := [(0, .ref h)]) [0] rfl ?_
  have hin : ∀ w ∈ wsX00, w ∈ wsX0_knownAtStart := by decide +kernel
  have hm_personTotal : Cond.fieldLink RX0 9 "GossipSchedule" "personTotal" "I" ∈ wsX0_knownAtStart := by decide +kernel
  refine x_lconst (v := lN 0) (pc := 0) F dX0_knownAtStart_0 (by decide) ?_
  refine x_lstore_n (lv' := [(0, .ref h), (1, .long (lN (0)))]) (pc := 1) F dX0_knownAtStart_1 rfl (by decide) [1, 0] rfl ?_
  refine x_iconst (v := nI 0) (pc := 2) F dX0_knownAtStart_2 (by decide) ?_
  refine x_istore_n (lv' := [(0, .ref h), (1, .long (lN (0))), (3, .int (nI 0))]) (pc := 3) F dX0_knownAtStart_3 rfl (by decide) [1, 2, 0] rfl ?_
  have cut_4 : ∀ (fu : Nat) (i : Nat), (i ≤ G 0 0) → (G 0 0 - i) < fu → V p l e ({ frames := 0, cells := 0, slots := 0, locals := 0 }) s m args below meth c 4 0 0 Q0 (IC wX D h q cs s (G, L)) 4 [(0, .ref h), (1, .long (lN (pkN k0 i))), (3, .int (nI i))] [] := by
    intro fu
    induction fu with
    | zero => intro i hi hfu; exact absurd hfu (Nat.not_lt_zero _)
    | succ fu ih_4 =>
      intro i hi hfu
      refine x_iload_n (pc := 4) F dX0_knownAtStart_4 2 rfl rfl ?_
      refine x_aload_n (pc := 5) F dX0_knownAtStart_5 0 rfl rfl ?_
      refine gX_personTotal (v := G 0 0) (pc := 6) F hK hin hm_personTotal rfl dX0_knownAtStart_6 ?_
      refine x_icmpN_ge (tgt := 29) (pc := 9) F dX0_knownAtStart_9 (by decide) (by omega) (by omega) (fun hc_9 => ?_) (fun hc_9 => ?_)
      · refine x_lload_n (pc := 29) F dX0_knownAtStart_29 1 rfl rfl ?_
        exact x_retl (w := wX) (ty := tX) (pc := 30) F hK hr hlk hQ0 dX0_knownAtStart_30 (⟨rfl, by rw [show G 0 0 = i by omega]⟩)
      · refine x_lload_n (pc := 12) F dX0_knownAtStart_12 1 rfl rfl ?_
        refine x_lconst (v := lN 1) (pc := 13) F dX0_knownAtStart_13 (by decide) ?_
        refine x_bipush (v := nI 8) (pc := 14) F dX0_knownAtStart_14 (by decide) ?_
        refine x_iload_n (pc := 16) F dX0_knownAtStart_16 2 rfl rfl ?_
        refine x_imul (z := nI (8 * i)) (pc := 17) F dX0_knownAtStart_17 (pk_mul 8 i) ?_
        refine x_iload_n (pc := 18) F dX0_knownAtStart_18 2 rfl rfl ?_
        refine x_iadd (z := nI ((8 * i) + i)) (pc := 19) F dX0_knownAtStart_19 (nI_add (8 * i) i) ?_
        refine x_lshl (v := lN (1 * 2 ^ ((8 * i) + i))) (pc := 20) F dX0_knownAtStart_20 (wb_shl _ (by omega)) ?_
        refine x_lor (pc := 21) F dX0_knownAtStart_21 ((wb_or _ _).trans (congrArg lN (k0_or i))) ?_
        refine x_lstore_n (lv' := [(0, .ref h), (1, .long (lN (pkN k0 (i + 1)))), (3, .int (nI i))]) (pc := 22) F dX0_knownAtStart_22 rfl (by decide) [1, 0, 2] rfl ?_
        refine x_iinc (v := nI (i + 1)) (lv' := [(0, .ref h), (1, .long (lN (pkN k0 (i + 1)))), (3, .int (nI (i + 1)))]) (pc := 23) F dX0_knownAtStart_23 2 rfl (nx_inc (b := 1) i (by decide)) (by decide) [1, 2, 0] rfl ?_
        refine x_goto (tgt := 4) (pc := 26) F dX0_knownAtStart_26 (by decide) ?_
        refine x_lv [0, 1, 2] rfl ?_
        exact ih_4 (i + 1) (by omega) (by omega)
  refine x_lv [0, 1, 2] rfl ?_
  exact cut_4 ((G 0 0 - 0) + 1) 0 (Nat.zero_le _) (Nat.lt_succ_self _)
set_option maxHeartbeats 4000000 in
set_option maxRecDepth 100000 in
theorem c_X0_everythingKnown (l : Launch) (G : GS) (L : Nat → Nat) (h8 : G 0 0 ≤ 8) : MCl wX tX l yX0_everythingKnown wsX0_everythingKnown ({ frames := 0, cells := 0, slots := 0, locals := 0 }) [] (G, L) (fun r u => u = (G, L) ∧ r = lN (evN (G 0 0))) := by
  have hpw := Nat.two_pow_pos (G 0 0)
  refine x_startl (cc := cX0_everythingKnown) (maxL := 6) (ret := (some .long)) (own := RX0) (by decide) rfl rfl (fun _ => Nat.le_of_ble_eq_true rfl) ?_
  intro p e s m args below meth c D h q cs F hK hr hlk Q0 hQ0
  refine x_lv (lv' := [(0, .ref h)]) [0] rfl ?_
  have hin : ∀ w ∈ wsX00, w ∈ wsX0_everythingKnown := by decide +kernel
  have hm_personTotal : Cond.fieldLink RX0 9 "GossipSchedule" "personTotal" "I" ∈ wsX0_everythingKnown := by decide +kernel
  refine x_lconst (v := lN 1) (pc := 0) F dX0_everythingKnown_0 (by decide) ?_
  refine x_aload_n (pc := 1) F dX0_everythingKnown_1 0 rfl rfl ?_
  refine gX_personTotal (v := G 0 0) (pc := 2) F hK hin hm_personTotal rfl dX0_everythingKnown_2 ?_
  refine x_lshl (v := lN (1 * 2 ^ (G 0 0))) (pc := 5) F dX0_everythingKnown_5 (wb_shl _ (by omega)) ?_
  refine x_lconst (v := lN 1) (pc := 6) F dX0_everythingKnown_6 (by decide) ?_
  refine x_lsub (z := lN ((1 * 2 ^ (G 0 0)) - 1)) (pc := 7) F dX0_everythingKnown_7 (lN_sub (by omega)) ?_
  rw [Nat.one_mul]
  refine x_lstore_n (lv' := [(0, .ref h), (1, .long (lN (2 ^ G 0 0 - 1)))]) (pc := 8) F dX0_everythingKnown_8 rfl (by decide) [1, 0] rfl ?_
  refine x_lconst (v := lN 0) (pc := 9) F dX0_everythingKnown_9 (by decide) ?_
  refine x_lstore_n (lv' := [(0, .ref h), (1, .long (lN (2 ^ G 0 0 - 1))), (3, .long (lN (0)))]) (pc := 10) F dX0_everythingKnown_10 rfl (by decide) [1, 2, 0] rfl ?_
  refine x_iconst (v := nI 0) (pc := 11) F dX0_everythingKnown_11 (by decide) ?_
  refine x_istore (lv' := [(0, .ref h), (1, .long (lN (2 ^ G 0 0 - 1))), (3, .long (lN (0))), (5, .int (nI 0))]) (pc := 12) F dX0_everythingKnown_12 (by decide) [1, 2, 3, 0] rfl ?_
  have cut_14 : ∀ (fu : Nat) (i : Nat), (i ≤ G 0 0) → (G 0 0 - i) < fu → V p l e ({ frames := 0, cells := 0, slots := 0, locals := 0 }) s m args below meth c 6 0 0 Q0 (IC wX D h q cs s (G, L)) 14 [(0, .ref h), (1, .long (lN (2 ^ G 0 0 - 1))), (3, .long (lN (pkN (fun _ => 2 ^ G 0 0 - 1) i))), (5, .int (nI i))] [] := by
    intro fu
    induction fu with
    | zero => intro i hi hfu; exact absurd hfu (Nat.not_lt_zero _)
    | succ fu ih_14 =>
      intro i hi hfu
      refine x_iload (pc := 14) F dX0_everythingKnown_14 3 rfl ?_
      refine x_aload_n (pc := 16) F dX0_everythingKnown_16 0 rfl rfl ?_
      refine gX_personTotal (v := G 0 0) (pc := 17) F hK hin hm_personTotal rfl dX0_everythingKnown_17 ?_
      refine x_icmpN_ge (tgt := 39) (pc := 20) F dX0_everythingKnown_20 (by decide) (by omega) (by omega) (fun hc_20 => ?_) (fun hc_20 => ?_)
      · refine x_lload_n (pc := 39) F dX0_everythingKnown_39 2 rfl rfl ?_
        exact x_retl (w := wX) (ty := tX) (pc := 40) F hK hr hlk hQ0 dX0_everythingKnown_40 (⟨rfl, by rw [show evN (G 0 0) = pkN (fun _ => 2 ^ G 0 0 - 1) i from by rw [show i = G 0 0 by omega]]⟩)
      · refine x_lload_n (pc := 23) F dX0_everythingKnown_23 2 rfl rfl ?_
        refine x_lload_n (pc := 24) F dX0_everythingKnown_24 1 rfl rfl ?_
        refine x_bipush (v := nI 8) (pc := 25) F dX0_everythingKnown_25 (by decide) ?_
        refine x_iload (pc := 27) F dX0_everythingKnown_27 3 rfl ?_
        refine x_imul (z := nI (8 * i)) (pc := 29) F dX0_everythingKnown_29 (pk_mul 8 i) ?_
        refine x_lshl (v := lN ((2 ^ G 0 0 - 1) * 2 ^ (8 * i))) (pc := 30) F dX0_everythingKnown_30 (wb_shl _ (by omega)) ?_
        refine x_lor (z := lN ((pkN (fun _ => 2 ^ G 0 0 - 1) i) ||| ((2 ^ G 0 0 - 1) * 2 ^ (8 * i)))) (pc := 31) F dX0_everythingKnown_31 (wb_or _ _) ?_
        refine x_lstore_n (lv' := [(0, .ref h), (1, .long (lN (2 ^ G 0 0 - 1))), (3, .long (lN ((pkN (fun _ => 2 ^ G 0 0 - 1) i) ||| ((2 ^ G 0 0 - 1) * 2 ^ (8 * i))))), (5, .int (nI i))]) (pc := 32) F dX0_everythingKnown_32 rfl (by decide) [1, 2, 0, 3] rfl ?_
        refine x_iinc (v := nI (i + 1)) (lv' := [(0, .ref h), (1, .long (lN (2 ^ G 0 0 - 1))), (3, .long (lN ((pkN (fun _ => 2 ^ G 0 0 - 1) i) ||| ((2 ^ G 0 0 - 1) * 2 ^ (8 * i))))), (5, .int (nI (i + 1)))]) (pc := 33) F dX0_everythingKnown_33 3 rfl (nx_inc (b := 1) i (by decide)) (by decide) [1, 2, 3, 0] rfl ?_
        refine x_goto (tgt := 14) (pc := 36) F dX0_everythingKnown_36 (by decide) ?_
        refine x_lv [0, 1, 2, 3] rfl ?_
        exact ih_14 (i + 1) (by omega) (by omega)
  refine x_lv [0, 1, 2, 3] rfl ?_
  exact cut_14 ((G 0 0 - 0) + 1) 0 (Nat.zero_le _) (Nat.lt_succ_self _)
set_option maxHeartbeats 4000000 in
set_option maxRecDepth 100000 in
theorem c_X0_knownAfterCall (l : Launch) (G : GS) (L : Nat → Nat) (kn ci : Nat) (X : Nat → Nat) (hN : kn = pkN X (G 0 0)) (hX : ∀ p, p < G 0 0 → X p < 256) (hc : ci < G 4 0) (hG : ok G) : MCl wX tX l yX0_knownAfterCall wsX0_knownAfterCall ({ frames := 0, cells := 0, slots := 0, locals := 0 }) [.long (lN (kn)), .int (nI ci)] (G, L) (fun r u => u = (G, L) ∧ r = lN (pkN (stp G ci X) (G 0 0))) := by
  have hG0 := hG
  obtain ⟨b1, b2, b3, b4, b5, b6, b7, b8, b9, b10, b11⟩ := hG0
  have hj := b8 ci hc
  have hk64 : kn < 2 ^ 64 := hN ▸ pk_64 b2 hX
  refine x_startl (cc := cX0_knownAfterCall) (maxL := 10) (ret := (some .long)) (own := RX0) (by decide) rfl rfl (fun _ => Nat.le_of_ble_eq_true rfl) ?_
  intro p e s m args below meth c D h q cs F hK hr hlk Q0 hQ0
  refine x_lv (lv' := [(0, .ref h), (1, .long (lN (kn))), (3, .int (nI ci))]) [0, 1, 2] rfl ?_
  have hin : ∀ w ∈ wsX00, w ∈ wsX0_knownAfterCall := by decide +kernel
  have hm_callerOf : Cond.fieldLink RX0 23 "GossipSchedule" "callerOf" "[I" ∈ wsX0_knownAfterCall := by decide +kernel
  have hm_calleeOf : Cond.fieldLink RX0 26 "GossipSchedule" "calleeOf" "[I" ∈ wsX0_knownAfterCall := by decide +kernel
  have hm_isOneWay : Cond.fieldLink RX0 29 "GossipSchedule" "isOneWay" "[Z" ∈ wsX0_knownAfterCall := by decide +kernel
  have hk_207 : Cond.constantLong RX0 207 (255) ∈ wsX0_knownAfterCall := by decide +kernel
  refine x_bipush (v := nI 8) (pc := 0) F dX0_knownAfterCall_0 (by decide) ?_
  refine x_aload_n (pc := 2) F dX0_knownAfterCall_2 0 rfl rfl ?_
  refine gX_callerOf (pc := 3) F hK hin hm_callerOf dX0_knownAfterCall_3 ?_
  refine x_iload_n (pc := 6) F dX0_knownAfterCall_6 2 rfl rfl ?_
  refine lX_callerOf (v := G 6 ci) (pc := 7) F hK dX0_knownAfterCall_7 (by omega) rfl ?_
  refine x_imul (z := nI (8 * (G 6 ci))) (pc := 8) F dX0_knownAfterCall_8 (pk_mul 8 (G 6 ci)) ?_
  refine x_istore (lv' := [(0, .ref h), (1, .long (lN (kn))), (3, .int (nI ci)), (4, .int (nI (8 * (G 6 ci))))]) (pc := 9) F dX0_knownAfterCall_9 (by decide) [1, 2, 3, 0] rfl ?_
  refine x_bipush (v := nI 8) (pc := 11) F dX0_knownAfterCall_11 (by decide) ?_
  refine x_aload_n (pc := 13) F dX0_knownAfterCall_13 0 rfl rfl ?_
  refine gX_calleeOf (pc := 14) F hK hin hm_calleeOf dX0_knownAfterCall_14 ?_
  refine x_iload_n (pc := 17) F dX0_knownAfterCall_17 2 rfl rfl ?_
  refine lX_calleeOf (v := G 7 ci) (pc := 18) F hK dX0_knownAfterCall_18 (by omega) rfl ?_
  refine x_imul (z := nI (8 * (G 7 ci))) (pc := 19) F dX0_knownAfterCall_19 (pk_mul 8 (G 7 ci)) ?_
  refine x_istore (lv' := [(0, .ref h), (1, .long (lN (kn))), (3, .int (nI ci)), (4, .int (nI (8 * (G 6 ci)))), (5, .int (nI (8 * (G 7 ci))))]) (pc := 20) F dX0_knownAfterCall_20 (by decide) [1, 2, 3, 4, 0] rfl ?_
  refine x_lload_n (pc := 22) F dX0_knownAfterCall_22 1 rfl rfl ?_
  refine x_iload (pc := 23) F dX0_knownAfterCall_23 3 rfl ?_
  refine x_lushr (v := lN (kn / 2 ^ (8 * (G 6 ci)))) (pc := 25) F dX0_knownAfterCall_25 (wb_shr hk64 (by omega)) ?_
  refine x_lload_n (pc := 26) F dX0_knownAfterCall_26 1 rfl rfl ?_
  refine x_iload (pc := 27) F dX0_knownAfterCall_27 4 rfl ?_
  refine x_lushr (v := lN (kn / 2 ^ (8 * (G 7 ci)))) (pc := 29) F dX0_knownAfterCall_29 (wb_shr hk64 (by omega)) ?_
  refine x_lor (z := lN ((kn / 2 ^ (8 * (G 6 ci))) ||| (kn / 2 ^ (8 * (G 7 ci))))) (pc := 30) F dX0_knownAfterCall_30 (wb_or _ _) ?_
  refine x_ldc2 (v := lN 255) (pc := 31) F dX0_knownAfterCall_31 hk_207 ?_
  refine x_land (z := lN (((kn / 2 ^ (8 * (G 6 ci))) ||| (kn / 2 ^ (8 * (G 7 ci)))) &&& 255)) (pc := 34) F dX0_knownAfterCall_34 (wb_and _ _) ?_
  refine x_lstore (lv' := [(0, .ref h), (1, .long (lN (kn))), (3, .int (nI ci)), (4, .int (nI (8 * (G 6 ci)))), (5, .int (nI (8 * (G 7 ci)))), (6, .long (lN (((kn / 2 ^ (8 * (G 6 ci))) ||| (kn / 2 ^ (8 * (G 7 ci)))) &&& 255)))]) (pc := 35) F dX0_knownAfterCall_35 (by decide) [1, 2, 3, 4, 5, 0] rfl ?_
  refine x_lload_n (pc := 37) F dX0_knownAfterCall_37 1 rfl rfl ?_
  refine x_lload (pc := 38) F dX0_knownAfterCall_38 5 rfl ?_
  refine x_iload (pc := 40) F dX0_knownAfterCall_40 4 rfl ?_
  refine x_lshl (v := lN ((((kn / 2 ^ (8 * (G 6 ci))) ||| (kn / 2 ^ (8 * (G 7 ci)))) &&& 255) * 2 ^ (8 * (G 7 ci)))) (pc := 42) F dX0_knownAfterCall_42 (wb_shl _ (by omega)) ?_
  refine x_lor (z := lN (kn ||| ((((kn / 2 ^ (8 * (G 6 ci))) ||| (kn / 2 ^ (8 * (G 7 ci)))) &&& 255) * 2 ^ (8 * (G 7 ci))))) (pc := 43) F dX0_knownAfterCall_43 (wb_or _ _) ?_
  refine x_lstore (lv' := [(0, .ref h), (1, .long (lN (kn))), (3, .int (nI ci)), (4, .int (nI (8 * (G 6 ci)))), (5, .int (nI (8 * (G 7 ci)))), (6, .long (lN (((kn / 2 ^ (8 * (G 6 ci))) ||| (kn / 2 ^ (8 * (G 7 ci)))) &&& 255))), (8, .long (lN (kn ||| ((((kn / 2 ^ (8 * (G 6 ci))) ||| (kn / 2 ^ (8 * (G 7 ci)))) &&& 255) * 2 ^ (8 * (G 7 ci))))))]) (pc := 44) F dX0_knownAfterCall_44 (by decide) [1, 2, 3, 4, 5, 6, 0] rfl ?_
  refine x_aload_n (pc := 46) F dX0_knownAfterCall_46 0 rfl rfl ?_
  refine gX_isOneWay (pc := 47) F hK hin hm_isOneWay dX0_knownAfterCall_47 ?_
  refine x_iload_n (pc := 50) F dX0_knownAfterCall_50 2 rfl rfl ?_
  refine lX_isOneWay (v := G 8 ci) (pc := 51) F hK dX0_knownAfterCall_51 (by omega) rfl ?_
  refine x_ifN_eq (tgt := 60) (pc := 52) F dX0_knownAfterCall_52 (by decide) (by omega) (fun hc_52 => ?_) (fun hc_52 => ?_)
  · refine x_lload (pc := 60) F dX0_knownAfterCall_60 6 rfl ?_
    refine x_lload (pc := 62) F dX0_knownAfterCall_62 5 rfl ?_
    refine x_iload (pc := 64) F dX0_knownAfterCall_64 3 rfl ?_
    refine x_lshl (v := lN ((((kn / 2 ^ (8 * (G 6 ci))) ||| (kn / 2 ^ (8 * (G 7 ci)))) &&& 255) * 2 ^ (8 * (G 6 ci)))) (pc := 66) F dX0_knownAfterCall_66 (wb_shl _ (by omega)) ?_
    refine x_lor (z := lN ((kn ||| ((((kn / 2 ^ (8 * (G 6 ci))) ||| (kn / 2 ^ (8 * (G 7 ci)))) &&& 255) * 2 ^ (8 * (G 7 ci)))) ||| ((((kn / 2 ^ (8 * (G 6 ci))) ||| (kn / 2 ^ (8 * (G 7 ci)))) &&& 255) * 2 ^ (8 * (G 6 ci))))) (pc := 67) F dX0_knownAfterCall_67 (wb_or _ _) ?_
    exact x_retl (w := wX) (ty := tX) (pc := 68) F hK hr hlk hQ0 dX0_knownAfterCall_68 (⟨rfl, congrArg lN (by rw [hN]; exact kac2 hX hj.2.1 hj.2.2.1 hj.2.2.2.1 hc_52)⟩)
  · refine x_lload (pc := 55) F dX0_knownAfterCall_55 6 rfl ?_
    refine x_goto (tgt := 68) (pc := 57) F dX0_knownAfterCall_57 (by decide) ?_
    exact x_retl (w := wX) (ty := tX) (pc := 68) F hK hr hlk hQ0 dX0_knownAfterCall_68 (⟨rfl, congrArg lN (by rw [hN]; exact kac1 hX hj.2.1 hj.2.2.1 hc_52)⟩)
set_option maxHeartbeats 4000000 in
set_option maxRecDepth 100000 in
theorem c_X0_knownAfterRounds (l : Launch) (G : GS) (L : Nat → Nat) (mm : Nat) (hm : mm ≤ 16) (hG : ok G) : MCl wX tX l yX0_knownAfterRounds wsX0_knownAfterRounds ({ frames := 1, cells := 0, slots := 0, locals := 29 }) [.int (nI mm)] (G, L) (fun r u => u = (G, L) ∧ r = lN (pkN (kr G (rdF G mm) (G 4 0)) (G 0 0))) := by
  have hG0 := hG
  obtain ⟨b1, b2, b3, b4, b5, b6, b7, b8, b9, b10, b11⟩ := hG0
  refine x_startl (cc := cX0_knownAfterRounds) (maxL := 5) (ret := (some .long)) (own := RX0) (by decide) rfl rfl (fun _ => Nat.le_of_ble_eq_true rfl) ?_
  intro p e s m args below meth c D h q cs F hK hr hlk Q0 hQ0
  refine x_lv (lv' := [(0, .ref h), (1, .int (nI mm))]) [0, 1] rfl ?_
  have hin : ∀ w ∈ wsX00, w ∈ wsX0_knownAfterRounds := by decide +kernel
  have hm_callTotal : Cond.fieldLink RX0 70 "GossipSchedule" "callTotal" "I" ∈ wsX0_knownAfterRounds := by decide +kernel
  have hm_roundOf : Cond.fieldLink RX0 19 "GossipSchedule" "roundOf" "[I" ∈ wsX0_knownAfterRounds := by decide +kernel
  refine x_aload_n (pc := 0) F dX0_knownAfterRounds_0 0 rfl rfl ?_
  refine x_calll (w := wX) (ty := tX) (pc := 1) F hK wX_in [] [] (c_X0_knownAtStart l G L (by omega)) (cwV 0 F.2.2.2.2 gX0_knownAfterRounds_X0_knownAtStart rfl rfl rfl (by decide +kernel) ⟨Nat.le_of_ble_eq_true rfl, Nat.le_of_ble_eq_true rfl⟩) rfl rfl rfl rfl (Nat.le_of_ble_eq_true rfl) dX0_knownAfterRounds_1 ?_
  rintro _ _ ⟨rfl, rfl⟩
  refine x_lstore_n (lv' := [(0, .ref h), (1, .int (nI mm)), (2, .long (lN (pkN k0 (G 0 0))))]) (pc := 4) F dX0_knownAfterRounds_4 rfl (by decide) [1, 2, 0] rfl ?_
  refine x_iconst (v := nI 0) (pc := 5) F dX0_knownAfterRounds_5 (by decide) ?_
  refine x_istore (lv' := [(0, .ref h), (1, .int (nI mm)), (2, .long (lN (pkN k0 (G 0 0)))), (4, .int (nI 0))]) (pc := 6) F dX0_knownAfterRounds_6 (by decide) [1, 2, 3, 0] rfl ?_
  have cut_8 : ∀ (fu : Nat) (i : Nat), (i ≤ G 4 0) → (G 4 0 - i) < fu → V p l e ({ frames := 1, cells := 0, slots := 0, locals := 29 }) s m args below meth c 5 0 0 Q0 (IC wX D h q cs s (G, L)) 8 [(0, .ref h), (1, .int (nI mm)), (2, .long (lN (pkN (kr G (rdF G mm) i) (G 0 0)))), (4, .int (nI i))] [] := by
    intro fu
    induction fu with
    | zero => intro i hi hfu; exact absurd hfu (Nat.not_lt_zero _)
    | succ fu ih_8 =>
      intro i hi hfu
      refine x_iload (pc := 8) F dX0_knownAfterRounds_8 3 rfl ?_
      refine x_aload_n (pc := 10) F dX0_knownAfterRounds_10 0 rfl rfl ?_
      refine gX_callTotal (v := G 4 0) (pc := 11) F hK hin hm_callTotal rfl dX0_knownAfterRounds_11 ?_
      refine x_icmpN_ge (tgt := 42) (pc := 14) F dX0_knownAfterRounds_14 (by decide) (by omega) (by omega) (fun hc_14 => ?_) (fun hc_14 => ?_)
      · refine x_lload_n (pc := 42) F dX0_knownAfterRounds_42 2 rfl rfl ?_
        exact x_retl (w := wX) (ty := tX) (pc := 43) F hK hr hlk hQ0 dX0_knownAfterRounds_43 (⟨rfl, congrArg lN (by rw [show kr G (rdF G mm) (G 4 0) = kr G (rdF G mm) i from kr_rd hG hi (Or.inl (by omega)) k0])⟩)
      · have hj := b8 i (by omega)
        refine x_aload_n (pc := 17) F dX0_knownAfterRounds_17 0 rfl rfl ?_
        refine gX_roundOf (pc := 18) F hK hin hm_roundOf dX0_knownAfterRounds_18 ?_
        refine x_iload (pc := 21) F dX0_knownAfterRounds_21 3 rfl ?_
        refine lX_roundOf (v := G 5 i) (pc := 23) F hK dX0_knownAfterRounds_23 (by omega) rfl ?_
        refine x_iload_n (pc := 24) F dX0_knownAfterRounds_24 1 rfl rfl ?_
        refine x_icmpN_ge (tgt := 42) (pc := 25) F dX0_knownAfterRounds_25 (by decide) (by omega) (by omega) (fun hc_25 => ?_) (fun hc_25 => ?_)
        · refine x_lload_n (pc := 42) F dX0_knownAfterRounds_42 2 rfl rfl ?_
          exact x_retl (w := wX) (ty := tX) (pc := 43) F hK hr hlk hQ0 dX0_knownAfterRounds_43 (⟨rfl, congrArg lN (by rw [show kr G (rdF G mm) (G 4 0) = kr G (rdF G mm) i from kr_rd hG hi (Or.inr (by omega)) k0])⟩)
        · have hX := kr_256 hG (rdF G mm) (c := i) (by omega)
          refine x_aload_n (pc := 28) F dX0_knownAfterRounds_28 0 rfl rfl ?_
          refine x_lload_n (pc := 29) F dX0_knownAfterRounds_29 2 rfl rfl ?_
          refine x_iload (pc := 30) F dX0_knownAfterRounds_30 3 rfl ?_
          refine x_calll (w := wX) (ty := tX) (pc := 32) F hK wX_in [.long (lN (pkN (kr G (rdF G mm) i) (G 0 0))), .int (nI i)] [] (c_X0_knownAfterCall l G L (pkN (kr G (rdF G mm) i) (G 0 0)) i (kr G (rdF G mm) i) rfl hX (by omega) hG) (cwV 2 F.2.2.2.2 gX0_knownAfterRounds_X0_knownAfterCall rfl rfl rfl (by decide +kernel) ⟨Nat.le_of_ble_eq_true rfl, Nat.le_of_ble_eq_true rfl⟩) rfl rfl rfl rfl (Nat.le_of_ble_eq_true rfl) dX0_knownAfterRounds_32 ?_
          rintro _ _ ⟨rfl, rfl⟩
          refine x_lstore_n (lv' := [(0, .ref h), (1, .int (nI mm)), (2, .long (lN (pkN (stp G i (kr G (rdF G mm) i)) (G 0 0)))), (4, .int (nI i))]) (pc := 35) F dX0_knownAfterRounds_35 rfl (by decide) [1, 2, 0, 3] rfl ?_
          rw [show stp G i (kr G (rdF G mm) i) = kr G (rdF G mm) (i + 1) from (kr_t (rdF_t hc_25)).symm]
          refine x_iinc (v := nI (i + 1)) (lv' := [(0, .ref h), (1, .int (nI mm)), (2, .long (lN (pkN (kr G (rdF G mm) (i + 1)) (G 0 0)))), (4, .int (nI (i + 1)))]) (pc := 36) F dX0_knownAfterRounds_36 3 rfl (nx_inc (b := 1) i (by decide)) (by decide) [1, 2, 3, 0] rfl ?_
          refine x_goto (tgt := 8) (pc := 39) F dX0_knownAfterRounds_39 (by decide) ?_
          refine x_lv [0, 1, 2, 3] rfl ?_
          exact ih_8 (i + 1) (by omega) (by omega)
  refine x_lv [0, 1, 2, 3] rfl ?_
  exact cut_8 ((G 4 0 - 0) + 1) 0 (Nat.zero_le _) (Nat.lt_succ_self _)
set_option maxHeartbeats 4000000 in
set_option maxRecDepth 100000 in
theorem c_X0_scheduleIsComplete (l : Launch) (G : GS) (L : Nat → Nat) (hG : ok G) : MCi wX tX l yX0_scheduleIsComplete wsX0_scheduleIsComplete ({ frames := 2, cells := 0, slots := 0, locals := 53 }) [] (G, L) (fun r u => u = (G, L) ∧ r = nI (bN (cmp G allT = true))) := by
  have hG0 := hG
  obtain ⟨b1, b2, b3, b4, b5, b6, b7, b8, b9, b10, b11⟩ := hG0
  have hX := kr_256 hG (rdF G (G 3 0)) (c := G 4 0) (Nat.le_refl _)
  refine x_starti (cc := cX0_scheduleIsComplete) (maxL := 1) (ret := (some .boolean)) (own := RX0) (by decide) rfl rfl (fun _ => Nat.le_of_ble_eq_true rfl) ?_
  intro p e s m args below meth c D h q cs F hK hr hlk Q0 hQ0
  refine x_lv (lv' := [(0, .ref h)]) [0] rfl ?_
  have hin : ∀ w ∈ wsX00, w ∈ wsX0_scheduleIsComplete := by decide +kernel
  have hm_roundTotal : Cond.fieldLink RX0 55 "GossipSchedule" "roundTotal" "I" ∈ wsX0_scheduleIsComplete := by decide +kernel
  refine x_aload_n (pc := 0) F dX0_scheduleIsComplete_0 0 rfl rfl ?_
  refine x_aload_n (pc := 1) F dX0_scheduleIsComplete_1 0 rfl rfl ?_
  refine gX_roundTotal (v := G 3 0) (pc := 2) F hK hin hm_roundTotal rfl dX0_scheduleIsComplete_2 ?_
  refine x_calll (w := wX) (ty := tX) (pc := 5) F hK wX_in [.int (nI (G 3 0))] [] (c_X0_knownAfterRounds l G L (G 3 0) (by omega) hG) (cwV 1 F.2.2.2.2 gX0_scheduleIsComplete_X0_knownAfterRounds rfl rfl rfl (by decide +kernel) ⟨Nat.le_of_ble_eq_true rfl, Nat.le_of_ble_eq_true rfl⟩) rfl rfl rfl rfl (Nat.le_of_ble_eq_true rfl) dX0_scheduleIsComplete_5 ?_
  rintro _ _ ⟨rfl, rfl⟩
  refine x_aload_n (pc := 8) F dX0_scheduleIsComplete_8 0 rfl rfl ?_
  refine x_calll (w := wX) (ty := tX) (pc := 9) F hK wX_in [] [.long (lN (pkN (kr G (rdF G (G 3 0)) (G 4 0)) (G 0 0)))] (c_X0_everythingKnown l G L (by omega)) (cwV 0 F.2.2.2.2 gX0_scheduleIsComplete_X0_everythingKnown rfl rfl rfl (by decide +kernel) ⟨Nat.le_of_ble_eq_true rfl, Nat.le_of_ble_eq_true rfl⟩) rfl rfl rfl rfl (Nat.le_of_ble_eq_true rfl) dX0_scheduleIsComplete_9 ?_
  rintro _ _ ⟨rfl, rfl⟩
  refine x_lcmp (pc := 12) F dX0_scheduleIsComplete_12 rfl ?_
  refine x_ifL_ne (tgt := 20) (pc := 13) F dX0_scheduleIsComplete_13 (by decide) (pk_64 b2 hX) (pk_64 b2 (ev_256 b2)) (fun hc_13 => ?_) (fun hc_13 => ?_)
  · refine x_iconst (v := nI 0) (pc := 20) F dX0_scheduleIsComplete_20 (by decide) ?_
    exact x_retz (w := wX) (ty := tX) (pc := 21) F hK hr hlk hQ0 (nar_z _ (by omega)) dX0_scheduleIsComplete_21 (⟨rfl, congrArg nI (bN_f (fun z => hc_13 ((pk_full b2 hX).mpr (by rw [cmp, kr, ← kr_all hG k0] at z; exact z)))).symm⟩)
  · refine x_iconst (v := nI 1) (pc := 16) F dX0_scheduleIsComplete_16 (by decide) ?_
    refine x_goto (tgt := 21) (pc := 17) F dX0_scheduleIsComplete_17 (by decide) ?_
    exact x_retz (w := wX) (ty := tX) (pc := 21) F hK hr hlk hQ0 (nar_z _ (by omega)) dX0_scheduleIsComplete_21 (⟨rfl, congrArg nI (bN_t (by rw [cmp, kr, ← kr_all hG k0]; exact (pk_full b2 hX).mp hc_13)).symm⟩)
set_option maxHeartbeats 4000000 in
set_option maxRecDepth 100000 in
theorem c_X0_isCompleteWithout (l : Launch) (G : GS) (L : Nat → Nat) (j : Nat) (hj0 : j < 28) (hG : ok G) : MCi wX tX l yX0_isCompleteWithout wsX0_isCompleteWithout ({ frames := 1, cells := 0, slots := 0, locals := 29 }) [.int (nI j)] (G, L) (fun r u => u = (G, L) ∧ r = nI (bN (cmp G (butF j) = true))) := by
  have hG0 := hG
  obtain ⟨b1, b2, b3, b4, b5, b6, b7, b8, b9, b10, b11⟩ := hG0
  refine x_starti (cc := cX0_isCompleteWithout) (maxL := 5) (ret := (some .boolean)) (own := RX0) (by decide) rfl rfl (fun _ => Nat.le_of_ble_eq_true rfl) ?_
  intro p e s m args below meth c D h q cs F hK hr hlk Q0 hQ0
  refine x_lv (lv' := [(0, .ref h), (1, .int (nI j))]) [0, 1] rfl ?_
  have hin : ∀ w ∈ wsX00, w ∈ wsX0_isCompleteWithout := by decide +kernel
  have hm_callTotal : Cond.fieldLink RX0 70 "GossipSchedule" "callTotal" "I" ∈ wsX0_isCompleteWithout := by decide +kernel
  refine x_aload_n (pc := 0) F dX0_isCompleteWithout_0 0 rfl rfl ?_
  refine x_calll (w := wX) (ty := tX) (pc := 1) F hK wX_in [] [] (c_X0_knownAtStart l G L (by omega)) (cwV 0 F.2.2.2.2 gX0_isCompleteWithout_X0_knownAtStart rfl rfl rfl (by decide +kernel) ⟨Nat.le_of_ble_eq_true rfl, Nat.le_of_ble_eq_true rfl⟩) rfl rfl rfl rfl (Nat.le_of_ble_eq_true rfl) dX0_isCompleteWithout_1 ?_
  rintro _ _ ⟨rfl, rfl⟩
  refine x_lstore_n (lv' := [(0, .ref h), (1, .int (nI j)), (2, .long (lN (pkN k0 (G 0 0))))]) (pc := 4) F dX0_isCompleteWithout_4 rfl (by decide) [1, 2, 0] rfl ?_
  refine x_iconst (v := nI 0) (pc := 5) F dX0_isCompleteWithout_5 (by decide) ?_
  refine x_istore (lv' := [(0, .ref h), (1, .int (nI j)), (2, .long (lN (pkN k0 (G 0 0)))), (4, .int (nI 0))]) (pc := 6) F dX0_isCompleteWithout_6 (by decide) [1, 2, 3, 0] rfl ?_
  have cut_8 : ∀ (fu : Nat) (i : Nat), (i ≤ G 4 0) → (G 4 0 - i) < fu → V p l e ({ frames := 1, cells := 0, slots := 0, locals := 29 }) s m args below meth c 5 0 0 Q0 (IC wX D h q cs s (G, L)) 8 [(0, .ref h), (1, .int (nI j)), (2, .long (lN (pkN (kr G (butF j) i) (G 0 0)))), (4, .int (nI i))] [] := by
    intro fu
    induction fu with
    | zero => intro i hi hfu; exact absurd hfu (Nat.not_lt_zero _)
    | succ fu ih_8 =>
      intro i hi hfu
      refine x_iload (pc := 8) F dX0_isCompleteWithout_8 3 rfl ?_
      refine x_aload_n (pc := 10) F dX0_isCompleteWithout_10 0 rfl rfl ?_
      refine gX_callTotal (v := G 4 0) (pc := 11) F hK hin hm_callTotal rfl dX0_isCompleteWithout_11 ?_
      refine x_icmpN_ge (tgt := 37) (pc := 14) F dX0_isCompleteWithout_14 (by decide) (by omega) (by omega) (fun hc_14 => ?_) (fun hc_14 => ?_)
      · have hX := kr_256 hG (butF j) (c := i) (by omega)
        refine x_lload_n (pc := 37) F dX0_isCompleteWithout_37 2 rfl rfl ?_
        refine x_aload_n (pc := 38) F dX0_isCompleteWithout_38 0 rfl rfl ?_
        refine x_calll (w := wX) (ty := tX) (pc := 39) F hK wX_in [] [.long (lN (pkN (kr G (butF j) i) (G 0 0)))] (c_X0_everythingKnown l G L (by omega)) (cwV 0 F.2.2.2.2 gX0_isCompleteWithout_X0_everythingKnown rfl rfl rfl (by decide +kernel) ⟨Nat.le_of_ble_eq_true rfl, Nat.le_of_ble_eq_true rfl⟩) rfl rfl rfl rfl (Nat.le_of_ble_eq_true rfl) dX0_isCompleteWithout_39 ?_
        rintro _ _ ⟨rfl, rfl⟩
        refine x_lcmp (pc := 42) F dX0_isCompleteWithout_42 rfl ?_
        refine x_ifL_ne (tgt := 50) (pc := 43) F dX0_isCompleteWithout_43 (by decide) (pk_64 b2 hX) (pk_64 b2 (ev_256 b2)) (fun hc_43 => ?_) (fun hc_43 => ?_)
        · refine x_iconst (v := nI 0) (pc := 50) F dX0_isCompleteWithout_50 (by decide) ?_
          exact x_retz (w := wX) (ty := tX) (pc := 51) F hK hr hlk hQ0 (nar_z _ (by omega)) dX0_isCompleteWithout_51 (⟨rfl, congrArg nI (bN_f (fun z => hc_43 ((pk_full b2 hX).mpr (by rw [cmp, show G 4 0 = i by omega] at z; exact z)))).symm⟩)
        · refine x_iconst (v := nI 1) (pc := 46) F dX0_isCompleteWithout_46 (by decide) ?_
          refine x_goto (tgt := 51) (pc := 47) F dX0_isCompleteWithout_47 (by decide) ?_
          exact x_retz (w := wX) (ty := tX) (pc := 51) F hK hr hlk hQ0 (nar_z _ (by omega)) dX0_isCompleteWithout_51 (⟨rfl, congrArg nI (bN_t (by rw [cmp, show G 4 0 = i by omega]; exact (pk_full b2 hX).mp hc_43)).symm⟩)
      · refine x_iload (pc := 17) F dX0_isCompleteWithout_17 3 rfl ?_
        refine x_iload_n (pc := 19) F dX0_isCompleteWithout_19 1 rfl rfl ?_
        refine x_icmpN_eq (tgt := 31) (pc := 20) F dX0_isCompleteWithout_20 (by decide) (by omega) (by omega) (fun hc_20 => ?_) (fun hc_20 => ?_)
        · rw [show kr G (butF j) i = kr G (butF j) (i + 1) from (kr_f (by simp [butF, hc_20])).symm]
          refine x_iinc (v := nI (i + 1)) (lv' := [(0, .ref h), (1, .int (nI j)), (2, .long (lN (pkN (kr G (butF j) (i + 1)) (G 0 0)))), (4, .int (nI (i + 1)))]) (pc := 31) F dX0_isCompleteWithout_31 3 rfl (nx_inc (b := 1) i (by decide)) (by decide) [1, 2, 3, 0] rfl ?_
          refine x_goto (tgt := 8) (pc := 34) F dX0_isCompleteWithout_34 (by decide) ?_
          refine x_lv [0, 1, 2, 3] rfl ?_
          exact ih_8 (i + 1) (by omega) (by omega)
        · have hX := kr_256 hG (butF j) (c := i) (by omega)
          refine x_aload_n (pc := 23) F dX0_isCompleteWithout_23 0 rfl rfl ?_
          refine x_lload_n (pc := 24) F dX0_isCompleteWithout_24 2 rfl rfl ?_
          refine x_iload (pc := 25) F dX0_isCompleteWithout_25 3 rfl ?_
          refine x_calll (w := wX) (ty := tX) (pc := 27) F hK wX_in [.long (lN (pkN (kr G (butF j) i) (G 0 0))), .int (nI i)] [] (c_X0_knownAfterCall l G L (pkN (kr G (butF j) i) (G 0 0)) i (kr G (butF j) i) rfl hX (by omega) hG) (cwV 2 F.2.2.2.2 gX0_isCompleteWithout_X0_knownAfterCall rfl rfl rfl (by decide +kernel) ⟨Nat.le_of_ble_eq_true rfl, Nat.le_of_ble_eq_true rfl⟩) rfl rfl rfl rfl (Nat.le_of_ble_eq_true rfl) dX0_isCompleteWithout_27 ?_
          rintro _ _ ⟨rfl, rfl⟩
          refine x_lstore_n (lv' := [(0, .ref h), (1, .int (nI j)), (2, .long (lN (pkN (stp G i (kr G (butF j) i)) (G 0 0)))), (4, .int (nI i))]) (pc := 30) F dX0_isCompleteWithout_30 rfl (by decide) [1, 2, 0, 3] rfl ?_
          rw [show stp G i (kr G (butF j) i) = kr G (butF j) (i + 1) from (kr_t (decide_eq_true hc_20)).symm]
          refine x_iinc (v := nI (i + 1)) (lv' := [(0, .ref h), (1, .int (nI j)), (2, .long (lN (pkN (kr G (butF j) (i + 1)) (G 0 0)))), (4, .int (nI (i + 1)))]) (pc := 31) F dX0_isCompleteWithout_31 3 rfl (nx_inc (b := 1) i (by decide)) (by decide) [1, 2, 3, 0] rfl ?_
          refine x_goto (tgt := 8) (pc := 34) F dX0_isCompleteWithout_34 (by decide) ?_
          refine x_lv [0, 1, 2, 3] rfl ?_
          exact ih_8 (i + 1) (by omega) (by omega)
  refine x_lv [0, 1, 2, 3] rfl ?_
  exact cut_8 ((G 4 0 - 0) + 1) 0 (Nat.zero_le _) (Nat.lt_succ_self _)
set_option maxHeartbeats 4000000 in
set_option maxRecDepth 100000 in
theorem c_X0_knowledge (l : Launch) (G : GS) (L : Nat → Nat) (x y : Int32) (hG : ok G) : MCi wX tX l yX0_knowledge wsX0_knowledge ({ frames := 2, cells := 0, slots := 0, locals := 53 }) [.int (x), .int (y)] (G, L) (fun r u => u = (G, L) ∧ r = sp_know G x y) := by
  have hG0 := hG
  obtain ⟨b1, b2, b3, b4, b5, b6, b7, b8, b9, b10, b11⟩ := hG0
  refine x_starti (cc := cX0_knowledge) (maxL := 3) (ret := (some .int)) (own := RX0) (by decide) rfl rfl (fun _ => Nat.le_of_ble_eq_true rfl) ?_
  intro p e s m args below meth c D h q cs F hK hr hlk Q0 hQ0
  refine x_lv (lv' := [(0, .ref h), (1, .int (x)), (2, .int (y))]) [0, 1, 2] rfl ?_
  have hin : ∀ w ∈ wsX00, w ∈ wsX0_knowledge := by decide +kernel
  have hm_roundTotal : Cond.fieldLink RX0 55 "GossipSchedule" "roundTotal" "I" ∈ wsX0_knowledge := by decide +kernel
  refine x_aload_n (pc := 0) F dX0_knowledge_0 0 rfl rfl ?_
  refine x_iload_n (pc := 1) F dX0_knowledge_1 1 rfl rfl ?_
  refine x_calli (w := wX) (ty := tX) (pc := 2) F hK wX_in [.int (x)] [] (c_X0_personExists l G L x ((x).toInt) rfl (by omega)) (cwV 1 F.2.2.2.2 gX0_knowledge_X0_personExists rfl rfl rfl (by decide +kernel) ⟨Nat.le_of_ble_eq_true rfl, Nat.le_of_ble_eq_true rfl⟩) rfl rfl rfl rfl (Nat.le_of_ble_eq_true rfl) dX0_knowledge_2 ?_
  rintro _ _ ⟨rfl, rfl⟩
  refine x_ifB_ne (tgt := 11) (pc := 5) F dX0_knowledge_5 (by decide) (fun hc_5 => ?_) (fun hc_5 => ?_)
  · refine x_iload_n (pc := 11) F dX0_knowledge_11 2 rfl rfl ?_
    refine x_ifT_lt (a := (y).toInt) (tgt := 23) (pc := 12) F dX0_knowledge_12 (by decide) rfl (fun hc_12 => ?_) (fun hc_12 => ?_)
    · refine x_bipush (v := -5) (pc := 23) F dX0_knowledge_23 (by decide) ?_
      exact x_reti (w := wX) (ty := tX) (pc := 25) F hK hr hlk hQ0 dX0_knowledge_25 (⟨rfl, by rw [sp_know, if_pos (by unfold inR; omega), if_neg (by omega)]⟩)
    · refine x_iload_n (pc := 15) F dX0_knowledge_15 2 rfl rfl ?_
      refine x_aload_n (pc := 16) F dX0_knowledge_16 0 rfl rfl ?_
      refine gX_roundTotal (v := G 3 0) (pc := 17) F hK hin hm_roundTotal rfl dX0_knowledge_17 ?_
      refine x_icmpT_le (a := (y).toInt) (b := ((G 3 0 : Nat) : Int)) (tgt := 26) (pc := 20) F dX0_knowledge_20 (by decide) rfl (nI_toInt (by omega)) (fun hc_20 => ?_) (fun hc_20 => ?_)
      · obtain ⟨ja, h_ja, rfl⟩ := nI_ofR (x := x) (n := G 0 0) (by omega) (by omega)
        have e_ja : (nI ja).toInt = (ja : Int) := nI_toInt (by omega)
        obtain ⟨jb, h_jb, rfl⟩ := nI_ofR (x := y) (n := G 3 0 + 1) (by omega) (by omega)
        have e_jb : (nI jb).toInt = (jb : Int) := nI_toInt (by omega)
        refine x_aload_n (pc := 26) F dX0_knowledge_26 0 rfl rfl ?_
        refine x_iload_n (pc := 27) F dX0_knowledge_27 2 rfl rfl ?_
        refine x_calll (w := wX) (ty := tX) (pc := 28) F hK wX_in [.int (nI jb)] [] (c_X0_knownAfterRounds l G L jb (by omega) hG) (cwV 1 F.2.2.2.2 gX0_knowledge_X0_knownAfterRounds rfl rfl rfl (by decide +kernel) ⟨Nat.le_of_ble_eq_true rfl, Nat.le_of_ble_eq_true rfl⟩) rfl rfl rfl rfl (Nat.le_of_ble_eq_true rfl) dX0_knowledge_28 ?_
        rintro _ _ ⟨rfl, rfl⟩
        have hX := kr_256 hG (rdF G jb) (c := G 4 0) (Nat.le_refl _)
        refine x_iload_n (pc := 31) F dX0_knowledge_31 1 rfl rfl ?_
        refine x_scalli (pc := 32) F [.long (lN (pkN (kr G (rdF G jb) (G 4 0)) (G 0 0))), .int (nI ja)] [] (c_X0_itemsOf l (pkN (kr G (rdF G jb) (G 4 0)) (G 0 0)) ja (pk_64 b2 hX) (by omega)) (va_cwS 2 F.2.2.2.2 gX0_knowledge_X0_itemsOf rfl rfl rfl (by decide +kernel) ⟨Nat.le_of_ble_eq_true rfl, Nat.le_of_ble_eq_true rfl⟩) rfl rfl (Nat.le_of_ble_eq_true rfl) dX0_knowledge_32 ?_
        rintro _ rfl
        exact x_reti (w := wX) (ty := tX) (pc := 35) F hK hr hlk hQ0 dX0_knowledge_35 (⟨rfl, by rw [sp_know, if_pos (by unfold inR; omega), if_pos (by omega), toNat_nI (by omega), toNat_nI (by omega), pk_item hX h_ja]⟩)
      · refine x_bipush (v := -5) (pc := 23) F dX0_knowledge_23 (by decide) ?_
        exact x_reti (w := wX) (ty := tX) (pc := 25) F hK hr hlk hQ0 dX0_knowledge_25 (⟨rfl, by rw [sp_know, if_pos (by unfold inR; omega), if_neg (by omega)]⟩)
  · refine x_bipush (v := -6) (pc := 8) F dX0_knowledge_8 (by decide) ?_
    exact x_reti (w := wX) (ty := tX) (pc := 10) F hK hr hlk hQ0 dX0_knowledge_10 (⟨rfl, by rw [sp_know, if_neg (by unfold inR; omega)]⟩)
set_option maxHeartbeats 4000000 in
set_option maxRecDepth 100000 in
theorem c_X0_completeAfter (l : Launch) (G : GS) (L : Nat → Nat) (hG : ok G) : MCi wX tX l yX0_completeAfter wsX0_completeAfter ({ frames := 1, cells := 0, slots := 0, locals := 29 }) [] (G, L) (fun r u => u = (G, L) ∧ r = caV G) := by
  have hG0 := hG
  obtain ⟨b1, b2, b3, b4, b5, b6, b7, b8, b9, b10, b11⟩ := hG0
  refine x_starti (cc := cX0_completeAfter) (maxL := 6) (ret := (some .int)) (own := RX0) (by decide) rfl rfl (fun _ => Nat.le_of_ble_eq_true rfl) ?_
  intro p e s m args below meth c D h q cs F hK hr hlk Q0 hQ0
  refine x_lv (lv' := [(0, .ref h)]) [0] rfl ?_
  have hin : ∀ w ∈ wsX00, w ∈ wsX0_completeAfter := by decide +kernel
  have hm_callTotal : Cond.fieldLink RX0 70 "GossipSchedule" "callTotal" "I" ∈ wsX0_completeAfter := by decide +kernel
  have hm_roundOf : Cond.fieldLink RX0 19 "GossipSchedule" "roundOf" "[I" ∈ wsX0_completeAfter := by decide +kernel
  refine x_aload_n (pc := 0) F dX0_completeAfter_0 0 rfl rfl ?_
  refine x_calll (w := wX) (ty := tX) (pc := 1) F hK wX_in [] [] (c_X0_everythingKnown l G L (by omega)) (cwV 0 F.2.2.2.2 gX0_completeAfter_X0_everythingKnown rfl rfl rfl (by decide +kernel) ⟨Nat.le_of_ble_eq_true rfl, Nat.le_of_ble_eq_true rfl⟩) rfl rfl rfl rfl (Nat.le_of_ble_eq_true rfl) dX0_completeAfter_1 ?_
  rintro _ _ ⟨rfl, rfl⟩
  refine x_lstore_n (lv' := [(0, .ref h), (1, .long (lN (evN (G 0 0))))]) (pc := 4) F dX0_completeAfter_4 rfl (by decide) [1, 0] rfl ?_
  refine x_aload_n (pc := 5) F dX0_completeAfter_5 0 rfl rfl ?_
  refine x_calll (w := wX) (ty := tX) (pc := 6) F hK wX_in [] [] (c_X0_knownAtStart l G L (by omega)) (cwV 0 F.2.2.2.2 gX0_completeAfter_X0_knownAtStart rfl rfl rfl (by decide +kernel) ⟨Nat.le_of_ble_eq_true rfl, Nat.le_of_ble_eq_true rfl⟩) rfl rfl rfl rfl (Nat.le_of_ble_eq_true rfl) dX0_completeAfter_6 ?_
  rintro _ _ ⟨rfl, rfl⟩
  refine x_lstore_n (lv' := [(0, .ref h), (1, .long (lN (evN (G 0 0)))), (3, .long (lN (pkN k0 (G 0 0))))]) (pc := 9) F dX0_completeAfter_9 rfl (by decide) [1, 2, 0] rfl ?_
  refine x_iconst (v := nI 0) (pc := 10) F dX0_completeAfter_10 (by decide) ?_
  refine x_istore (lv' := [(0, .ref h), (1, .long (lN (evN (G 0 0)))), (3, .long (lN (pkN k0 (G 0 0)))), (5, .int (nI 0))]) (pc := 11) F dX0_completeAfter_11 (by decide) [1, 2, 3, 0] rfl ?_
  have cut_13 : ∀ (fu : Nat) (i : Nat), (i ≤ G 4 0) → (∀ k, k ≤ i → ¬ full (G 0 0) (kr G allT k) = true) → (G 4 0 - i) < fu → V p l e ({ frames := 1, cells := 0, slots := 0, locals := 29 }) s m args below meth c 6 0 0 Q0 (IC wX D h q cs s (G, L)) 13 [(0, .ref h), (1, .long (lN (evN (G 0 0)))), (3, .long (lN (pkN (kr G allT i) (G 0 0)))), (5, .int (nI i))] [] := by
    intro fu
    induction fu with
    | zero => intro i hi hn hfu; exact absurd hfu (Nat.not_lt_zero _)
    | succ fu ih_13 =>
      intro i hi hn hfu
      refine x_iload (pc := 13) F dX0_completeAfter_13 3 rfl ?_
      refine x_aload_n (pc := 15) F dX0_completeAfter_15 0 rfl rfl ?_
      refine gX_callTotal (v := G 4 0) (pc := 16) F hK hin hm_callTotal rfl dX0_completeAfter_16 ?_
      refine x_icmpN_ge (tgt := 52) (pc := 19) F dX0_completeAfter_19 (by decide) (by omega) (by omega) (fun hc_19 => ?_) (fun hc_19 => ?_)
      · refine x_iconst (v := -1) (pc := 52) F dX0_completeAfter_52 (by decide) ?_
        exact x_reti (w := wX) (ty := tX) (pc := 53) F hK hr hlk hQ0 dX0_completeAfter_53 (⟨rfl, (ca_none hG (fun k hk => hn k (by omega))).symm⟩)
      · have hX := kr_256 hG allT (c := i) (by omega)
        refine x_aload_n (pc := 22) F dX0_completeAfter_22 0 rfl rfl ?_
        refine x_lload_n (pc := 23) F dX0_completeAfter_23 2 rfl rfl ?_
        refine x_iload (pc := 24) F dX0_completeAfter_24 3 rfl ?_
        refine x_calll (w := wX) (ty := tX) (pc := 26) F hK wX_in [.long (lN (pkN (kr G allT i) (G 0 0))), .int (nI i)] [] (c_X0_knownAfterCall l G L (pkN (kr G allT i) (G 0 0)) i (kr G allT i) rfl hX (by omega) hG) (cwV 2 F.2.2.2.2 gX0_completeAfter_X0_knownAfterCall rfl rfl rfl (by decide +kernel) ⟨Nat.le_of_ble_eq_true rfl, Nat.le_of_ble_eq_true rfl⟩) rfl rfl rfl rfl (Nat.le_of_ble_eq_true rfl) dX0_completeAfter_26 ?_
        rintro _ _ ⟨rfl, rfl⟩
        refine x_lstore_n (lv' := [(0, .ref h), (1, .long (lN (evN (G 0 0)))), (3, .long (lN (pkN (stp G i (kr G allT i)) (G 0 0)))), (5, .int (nI i))]) (pc := 29) F dX0_completeAfter_29 rfl (by decide) [1, 2, 0, 3] rfl ?_
        rw [show stp G i (kr G allT i) = kr G allT (i + 1) from (kr_t rfl).symm]
        have hX1 := kr_256 hG allT (c := i + 1) (by omega)
        refine x_lload_n (pc := 30) F dX0_completeAfter_30 2 rfl rfl ?_
        refine x_lload_n (pc := 31) F dX0_completeAfter_31 1 rfl rfl ?_
        refine x_lcmp (pc := 32) F dX0_completeAfter_32 rfl ?_
        refine x_ifL_ne (tgt := 46) (pc := 33) F dX0_completeAfter_33 (by decide) (pk_64 b2 hX1) (pk_64 b2 (ev_256 b2)) (fun hc_33 => ?_) (fun hc_33 => ?_)
        · have hnf : ¬ full (G 0 0) (kr G allT (i + 1)) = true := fun z => hc_33 ((pk_full b2 hX1).mpr z)
          refine x_iinc (v := nI (i + 1)) (lv' := [(0, .ref h), (1, .long (lN (evN (G 0 0)))), (3, .long (lN (pkN (kr G allT (i + 1)) (G 0 0)))), (5, .int (nI (i + 1)))]) (pc := 46) F dX0_completeAfter_46 3 rfl (nx_inc (b := 1) i (by decide)) (by decide) [1, 2, 3, 0] rfl ?_
          refine x_goto (tgt := 13) (pc := 49) F dX0_completeAfter_49 (by decide) ?_
          refine x_lv [0, 1, 2, 3] rfl ?_
          exact ih_13 (i + 1) (by omega) (fun k hk => if e : k ≤ i then hn k e else by rw [show k = i + 1 by omega]; exact hnf) (by omega)
        · have hful := (pk_full b2 hX1).mp hc_33
          refine x_aload_n (pc := 36) F dX0_completeAfter_36 0 rfl rfl ?_
          refine gX_roundOf (pc := 37) F hK hin hm_roundOf dX0_completeAfter_37 ?_
          refine x_iload (pc := 40) F dX0_completeAfter_40 3 rfl ?_
          refine lX_roundOf (v := G 5 i) (pc := 42) F hK dX0_completeAfter_42 (by omega) rfl ?_
          refine x_iconst (v := nI 1) (pc := 43) F dX0_completeAfter_43 (by decide) ?_
          refine x_iadd (z := nI (G 5 i + 1)) (pc := 44) F dX0_completeAfter_44 (nI_add (G 5 i) 1) ?_
          exact x_reti (w := wX) (ty := tX) (pc := 45) F hK hr hlk hQ0 dX0_completeAfter_45 (⟨rfl, (ca_hit hG (by omega) hn hful).symm⟩)
  refine x_lv [0, 1, 2, 3] rfl ?_
  exact cut_13 ((G 4 0 - 0) + 1) 0 (Nat.zero_le _) (fun k hk => by rw [show k = 0 by omega]; exact k0_nf b1) (Nat.lt_succ_self _)
set_option maxHeartbeats 4000000 in
set_option maxRecDepth 100000 in
theorem c_X0_redundantCalls (l : Launch) (G : GS) (L : Nat → Nat) (hG : ok G) : MCi wX tX l yX0_redundantCalls wsX0_redundantCalls ({ frames := 1, cells := 0, slots := 0, locals := 29 }) [] (G, L) (fun r u => u = (G, L) ∧ r = nI (rdN G (G 4 0))) := by
  have hG0 := hG
  obtain ⟨b1, b2, b3, b4, b5, b6, b7, b8, b9, b10, b11⟩ := hG0
  refine x_starti (cc := cX0_redundantCalls) (maxL := 7) (ret := (some .int)) (own := RX0) (by decide) rfl rfl (fun _ => Nat.le_of_ble_eq_true rfl) ?_
  intro p e s m args below meth c D h q cs F hK hr hlk Q0 hQ0
  refine x_lv (lv' := [(0, .ref h)]) [0] rfl ?_
  have hin : ∀ w ∈ wsX00, w ∈ wsX0_redundantCalls := by decide +kernel
  have hm_callTotal : Cond.fieldLink RX0 70 "GossipSchedule" "callTotal" "I" ∈ wsX0_redundantCalls := by decide +kernel
  refine x_iconst (v := nI 0) (pc := 0) F dX0_redundantCalls_0 (by decide) ?_
  refine x_istore_n (lv' := [(0, .ref h), (1, .int (nI 0))]) (pc := 1) F dX0_redundantCalls_1 rfl (by decide) [1, 0] rfl ?_
  refine x_aload_n (pc := 2) F dX0_redundantCalls_2 0 rfl rfl ?_
  refine x_calll (w := wX) (ty := tX) (pc := 3) F hK wX_in [] [] (c_X0_knownAtStart l G L (by omega)) (cwV 0 F.2.2.2.2 gX0_redundantCalls_X0_knownAtStart rfl rfl rfl (by decide +kernel) ⟨Nat.le_of_ble_eq_true rfl, Nat.le_of_ble_eq_true rfl⟩) rfl rfl rfl rfl (Nat.le_of_ble_eq_true rfl) dX0_redundantCalls_3 ?_
  rintro _ _ ⟨rfl, rfl⟩
  refine x_lstore_n (lv' := [(0, .ref h), (1, .int (nI 0)), (2, .long (lN (pkN k0 (G 0 0))))]) (pc := 6) F dX0_redundantCalls_6 rfl (by decide) [1, 2, 0] rfl ?_
  refine x_iconst (v := nI 0) (pc := 7) F dX0_redundantCalls_7 (by decide) ?_
  refine x_istore (lv' := [(0, .ref h), (1, .int (nI 0)), (2, .long (lN (pkN k0 (G 0 0)))), (4, .int (nI 0))]) (pc := 8) F dX0_redundantCalls_8 (by decide) [1, 2, 3, 0] rfl ?_
  have cut_10 : ∀ (fu : Nat) (i : Nat) (rn : Nat), (i ≤ G 4 0) → (rn = rdN G i) → (G 4 0 - i) < fu → V p l e ({ frames := 1, cells := 0, slots := 0, locals := 29 }) s m args below meth c 7 0 0 Q0 (IC wX D h q cs s (G, L)) 10 [(0, .ref h), (1, .int (nI rn)), (2, .long (lN (pkN (kr G allT i) (G 0 0)))), (4, .int (nI i))] [] := by
    intro fu
    induction fu with
    | zero => intro i rn hi hrn hfu; exact absurd hfu (Nat.not_lt_zero _)
    | succ fu ih_10 =>
      intro i rn hi hrn hfu
      refine x_iload (pc := 10) F dX0_redundantCalls_10 3 rfl ?_
      refine x_aload_n (pc := 12) F dX0_redundantCalls_12 0 rfl rfl ?_
      refine gX_callTotal (v := G 4 0) (pc := 13) F hK hin hm_callTotal rfl dX0_redundantCalls_13 ?_
      refine x_icmpN_ge (tgt := 47) (pc := 16) F dX0_redundantCalls_16 (by decide) (by omega) (by omega) (fun hc_16 => ?_) (fun hc_16 => ?_)
      · refine x_iload_n (pc := 47) F dX0_redundantCalls_47 1 rfl rfl ?_
        exact x_reti (w := wX) (ty := tX) (pc := 48) F hK hr hlk hQ0 dX0_redundantCalls_48 (⟨rfl, by rw [hrn, show i = G 4 0 by omega]⟩)
      · have hX := kr_256 hG allT (c := i) (by omega)
        refine x_aload_n (pc := 19) F dX0_redundantCalls_19 0 rfl rfl ?_
        refine x_lload_n (pc := 20) F dX0_redundantCalls_20 2 rfl rfl ?_
        refine x_iload (pc := 21) F dX0_redundantCalls_21 3 rfl ?_
        refine x_calll (w := wX) (ty := tX) (pc := 23) F hK wX_in [.long (lN (pkN (kr G allT i) (G 0 0))), .int (nI i)] [] (c_X0_knownAfterCall l G L (pkN (kr G allT i) (G 0 0)) i (kr G allT i) rfl hX (by omega) hG) (cwV 2 F.2.2.2.2 gX0_redundantCalls_X0_knownAfterCall rfl rfl rfl (by decide +kernel) ⟨Nat.le_of_ble_eq_true rfl, Nat.le_of_ble_eq_true rfl⟩) rfl rfl rfl rfl (Nat.le_of_ble_eq_true rfl) dX0_redundantCalls_23 ?_
        rintro _ _ ⟨rfl, rfl⟩
        refine x_lstore (lv' := [(0, .ref h), (1, .int (nI rn)), (2, .long (lN (pkN (kr G allT i) (G 0 0)))), (4, .int (nI i)), (5, .long (lN (pkN (stp G i (kr G allT i)) (G 0 0))))]) (pc := 26) F dX0_redundantCalls_26 (by decide) [1, 2, 3, 4, 0] rfl ?_
        have hX1 := stp_256 hG allT (i := i) (by omega)
        refine x_lload (pc := 28) F dX0_redundantCalls_28 4 rfl ?_
        refine x_lload_n (pc := 30) F dX0_redundantCalls_30 2 rfl rfl ?_
        refine x_lcmp (pc := 31) F dX0_redundantCalls_31 rfl ?_
        refine x_ifL_ne (tgt := 38) (pc := 32) F dX0_redundantCalls_32 (by decide) (pk_64 b2 hX1) (pk_64 b2 hX) (fun hc_32 => ?_) (fun hc_32 => ?_)
        · refine x_lload (pc := 38) F dX0_redundantCalls_38 4 rfl ?_
          refine x_lstore_n (lv' := [(0, .ref h), (1, .int (nI rn)), (2, .long (lN (pkN (stp G i (kr G allT i)) (G 0 0)))), (4, .int (nI i)), (5, .long (lN (pkN (stp G i (kr G allT i)) (G 0 0))))]) (pc := 40) F dX0_redundantCalls_40 rfl (by decide) [1, 2, 0, 3, 4] rfl ?_
          rw [show stp G i (kr G allT i) = kr G allT (i + 1) from (kr_t rfl).symm]
          refine x_iinc (v := nI (i + 1)) (lv' := [(0, .ref h), (1, .int (nI rn)), (2, .long (lN (pkN (kr G allT (i + 1)) (G 0 0)))), (4, .int (nI (i + 1))), (5, .long (lN (pkN (stp G i (kr G allT i)) (G 0 0))))]) (pc := 41) F dX0_redundantCalls_41 3 rfl (nx_inc (b := 1) i (by decide)) (by decide) [1, 2, 3, 0, 4] rfl ?_
          refine x_goto (tgt := 10) (pc := 44) F dX0_redundantCalls_44 (by decide) ?_
          refine x_lv [0, 1, 2, 3] rfl ?_
          exact ih_10 (i + 1) rn (by omega) (rdN_t hrn (Decidable.byContradiction (fun z => hc_32 ((rd_eq hG (by omega)).mpr z)))) (by omega)
        · refine x_iinc (v := nI (rn + 1)) (lv' := [(0, .ref h), (1, .int (nI (rn + 1))), (2, .long (lN (pkN (kr G allT i) (G 0 0)))), (4, .int (nI i)), (5, .long (lN (pkN (stp G i (kr G allT i)) (G 0 0))))]) (pc := 35) F dX0_redundantCalls_35 1 rfl (nx_inc (b := 1) rn (by decide)) (by decide) [1, 0, 2, 3, 4] rfl ?_
          refine x_lload (pc := 38) F dX0_redundantCalls_38 4 rfl ?_
          refine x_lstore_n (lv' := [(0, .ref h), (1, .int (nI (rn + 1))), (2, .long (lN (pkN (stp G i (kr G allT i)) (G 0 0)))), (4, .int (nI i)), (5, .long (lN (pkN (stp G i (kr G allT i)) (G 0 0))))]) (pc := 40) F dX0_redundantCalls_40 rfl (by decide) [1, 2, 0, 3, 4] rfl ?_
          rw [show stp G i (kr G allT i) = kr G allT (i + 1) from (kr_t rfl).symm]
          refine x_iinc (v := nI (i + 1)) (lv' := [(0, .ref h), (1, .int (nI (rn + 1))), (2, .long (lN (pkN (kr G allT (i + 1)) (G 0 0)))), (4, .int (nI (i + 1))), (5, .long (lN (pkN (stp G i (kr G allT i)) (G 0 0))))]) (pc := 41) F dX0_redundantCalls_41 3 rfl (nx_inc (b := 1) i (by decide)) (by decide) [1, 2, 3, 0, 4] rfl ?_
          refine x_goto (tgt := 10) (pc := 44) F dX0_redundantCalls_44 (by decide) ?_
          refine x_lv [0, 1, 2, 3] rfl ?_
          exact ih_10 (i + 1) (rn + 1) (by omega) (rdN_f hrn ((rd_eq hG (by omega)).mp hc_32)) (by omega)
  refine x_lv [0, 1, 2, 3] rfl ?_
  exact cut_10 ((G 4 0 - 0) + 1) 0 0 (Nat.zero_le _) rfl (Nat.lt_succ_self _)
set_option maxHeartbeats 4000000 in
set_option maxRecDepth 100000 in
theorem c_X0_isCritical (l : Launch) (G : GS) (L : Nat → Nat) (x : Int32) (hG : ok G) : MCi wX tX l yX0_isCritical wsX0_isCritical ({ frames := 3, cells := 0, slots := 0, locals := 73 }) [.int (x)] (G, L) (fun r u => u = (G, L) ∧ r = sp_crit G x) := by
  have hG0 := hG
  obtain ⟨b1, b2, b3, b4, b5, b6, b7, b8, b9, b10, b11⟩ := hG0
  refine x_starti (cc := cX0_isCritical) (maxL := 2) (ret := (some .int)) (own := RX0) (by decide) rfl rfl (fun _ => Nat.le_of_ble_eq_true rfl) ?_
  intro p e s m args below meth c D h q cs F hK hr hlk Q0 hQ0
  refine x_lv (lv' := [(0, .ref h), (1, .int (x))]) [0, 1] rfl ?_
  refine x_aload_n (pc := 0) F dX0_isCritical_0 0 rfl rfl ?_
  refine x_iload_n (pc := 1) F dX0_isCritical_1 1 rfl rfl ?_
  refine x_calli (w := wX) (ty := tX) (pc := 2) F hK wX_in [.int (x)] [] (c_X0_callExists l G L x ((x).toInt) rfl (by omega)) (cwV 1 F.2.2.2.2 gX0_isCritical_X0_callExists rfl rfl rfl (by decide +kernel) ⟨Nat.le_of_ble_eq_true rfl, Nat.le_of_ble_eq_true rfl⟩) rfl rfl rfl rfl (Nat.le_of_ble_eq_true rfl) dX0_isCritical_2 ?_
  rintro _ _ ⟨rfl, rfl⟩
  refine x_ifB_ne (tgt := 11) (pc := 5) F dX0_isCritical_5 (by decide) (fun hc_5 => ?_) (fun hc_5 => ?_)
  · obtain ⟨ja, h_ja, rfl⟩ := nI_ofR (x := x) (n := G 4 0) (by omega) (by omega)
    have e_ja : (nI ja).toInt = (ja : Int) := nI_toInt (by omega)
    refine x_aload_n (pc := 11) F dX0_isCritical_11 0 rfl rfl ?_
    refine x_calli (w := wX) (ty := tX) (pc := 12) F hK wX_in [] [] (c_X0_scheduleIsComplete l G L hG) (cwV 0 F.2.2.2.2 gX0_isCritical_X0_scheduleIsComplete rfl rfl rfl (by decide +kernel) ⟨Nat.le_of_ble_eq_true rfl, Nat.le_of_ble_eq_true rfl⟩) rfl rfl rfl rfl (Nat.le_of_ble_eq_true rfl) dX0_isCritical_12 ?_
    rintro _ _ ⟨rfl, rfl⟩
    refine x_ifB_eq (tgt := 30) (pc := 15) F dX0_isCritical_15 (by decide) (fun hc_15 => ?_) (fun hc_15 => ?_)
    · refine x_iconst (v := nI 0) (pc := 30) F dX0_isCritical_30 (by decide) ?_
      exact x_reti (w := wX) (ty := tX) (pc := 31) F hK hr hlk hQ0 dX0_isCritical_31 (⟨rfl, by rw [sp_crit_nI h_ja b6, bN_f (fun z => hc_15 z.1)]⟩)
    · refine x_aload_n (pc := 18) F dX0_isCritical_18 0 rfl rfl ?_
      refine x_iload_n (pc := 19) F dX0_isCritical_19 1 rfl rfl ?_
      refine x_calli (w := wX) (ty := tX) (pc := 20) F hK wX_in [.int (nI ja)] [] (c_X0_isCompleteWithout l G L ja (by omega) hG) (cwV 1 F.2.2.2.2 gX0_isCritical_X0_isCompleteWithout rfl rfl rfl (by decide +kernel) ⟨Nat.le_of_ble_eq_true rfl, Nat.le_of_ble_eq_true rfl⟩) rfl rfl rfl rfl (Nat.le_of_ble_eq_true rfl) dX0_isCritical_20 ?_
      rintro _ _ ⟨rfl, rfl⟩
      refine x_ifB_ne (tgt := 30) (pc := 23) F dX0_isCritical_23 (by decide) (fun hc_23 => ?_) (fun hc_23 => ?_)
      · refine x_iconst (v := nI 0) (pc := 30) F dX0_isCritical_30 (by decide) ?_
        exact x_reti (w := wX) (ty := tX) (pc := 31) F hK hr hlk hQ0 dX0_isCritical_31 (⟨rfl, by rw [sp_crit_nI h_ja b6, bN_f (fun z => z.2 hc_23)]⟩)
      · refine x_iconst (v := nI 1) (pc := 26) F dX0_isCritical_26 (by decide) ?_
        refine x_goto (tgt := 31) (pc := 27) F dX0_isCritical_27 (by decide) ?_
        exact x_reti (w := wX) (ty := tX) (pc := 31) F hK hr hlk hQ0 dX0_isCritical_31 (⟨rfl, by rw [sp_crit_nI h_ja b6, bN_t ⟨hc_15, hc_23⟩]⟩)
  · refine x_bipush (v := -7) (pc := 8) F dX0_isCritical_8 (by decide) ?_
    exact x_reti (w := wX) (ty := tX) (pc := 10) F hK hr hlk hQ0 dX0_isCritical_10 (⟨rfl, by rw [sp_crit, if_neg (by unfold inR; omega)]⟩)
