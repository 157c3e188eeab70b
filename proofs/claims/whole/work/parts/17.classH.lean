set_option maxHeartbeats 4000000 in
set_option maxRecDepth 100000 in
theorem c_X0_fillKnownAfterMasks (l : Launch) (G : GS) (L : Nat → Nat) (hc12 : G 4 0 ≤ 12) (hG : ok G) : MCv wX tX l yX0_fillKnownAfterMasks wsX0_fillKnownAfterMasks ({ frames := 1, cells := 0, slots := 0, locals := 29 }) [] (G, L) (fun u => ∃ L', u = (G, L') ∧ mkI G L' (G 4 0)) := by
  have hG0 := hG
  obtain ⟨b1, b2, b3, b4, b5, b6, b7, b8, b9, b10, b11⟩ := hG0
  refine x_startv (cc := cX0_fillKnownAfterMasks) (maxL := 4) (ret := none) (own := RX0) (by decide) rfl rfl (fun _ => Nat.le_of_ble_eq_true rfl) ?_
  intro p e s m args below meth c D h q cs F hK hr hlk Q0 hQ0
  refine x_lv (lv' := [(0, .ref h)]) [0] rfl ?_
  have hin : ∀ w ∈ wsX00, w ∈ wsX0_fillKnownAfterMasks := by decide +kernel
  have hm_knownAfterMask : Cond.fieldLink RX0 36 "GossipSchedule" "knownAfterMask" "[J" ∈ wsX0_fillKnownAfterMasks := by decide +kernel
  have hm_callTotal : Cond.fieldLink RX0 70 "GossipSchedule" "callTotal" "I" ∈ wsX0_fillKnownAfterMasks := by decide +kernel
  refine x_aload_n (pc := 0) F dX0_fillKnownAfterMasks_0 0 rfl rfl ?_
  refine gX_knownAfterMask (pc := 1) F hK hin hm_knownAfterMask dX0_fillKnownAfterMasks_1 ?_
  refine x_iconst (v := nI 0) (pc := 4) F dX0_fillKnownAfterMasks_4 (by decide) ?_
  refine x_aload_n (pc := 5) F dX0_fillKnownAfterMasks_5 0 rfl rfl ?_
  refine x_calll (w := wX) (ty := tX) (pc := 6) F hK wX_in [] [.int (nI 0), .ref (q 6)] (c_X0_knownAtStart l G L (by omega)) (cwV 0 F.2.2.2.2 gX0_fillKnownAfterMasks_X0_knownAtStart rfl rfl rfl (by decide +kernel) ⟨Nat.le_of_ble_eq_true rfl, Nat.le_of_ble_eq_true rfl⟩) rfl rfl rfl rfl (Nat.le_of_ble_eq_true rfl) dX0_fillKnownAfterMasks_6 ?_
  rintro _ _ ⟨rfl, rfl⟩
  refine sX_knownAfterMask (pc := 9) F hK dX0_fillKnownAfterMasks_9 (by omega) ?_
  refine x_iconst (v := nI 0) (pc := 10) F dX0_fillKnownAfterMasks_10 (by decide) ?_
  refine x_istore_n (lv' := [(0, .ref h), (1, .int (nI 0))]) (pc := 11) F dX0_fillKnownAfterMasks_11 rfl (by decide) [1, 0] rfl ?_
  have cut_12 : ∀ (fu : Nat) (i : Nat) (L1 : Nat → Nat), (i ≤ G 4 0) → (mkI G L1 i) → (G 4 0 - i) < fu → V p l e ({ frames := 1, cells := 0, slots := 0, locals := 29 }) s m args below meth c 4 0 0 Q0 (IC wX D h q cs s (G, L1)) 12 [(0, .ref h), (1, .int (nI i))] [] := by
    intro fu
    induction fu with
    | zero => intro i L1 hi hmk hfu; exact absurd hfu (Nat.not_lt_zero _)
    | succ fu ih_12 =>
      intro i L1 hi hmk hfu
      refine x_iload_n (pc := 12) F dX0_fillKnownAfterMasks_12 1 rfl rfl ?_
      refine x_aload_n (pc := 13) F dX0_fillKnownAfterMasks_13 0 rfl rfl ?_
      refine gX_callTotal (v := G 4 0) (pc := 14) F hK hin hm_callTotal rfl dX0_fillKnownAfterMasks_14 ?_
      refine x_icmpN_ge (tgt := 68) (pc := 17) F dX0_fillKnownAfterMasks_17 (by decide) (by omega) (by omega) (fun hc_17 => ?_) (fun hc_17 => ?_)
      · exact x_retv (w := wX) (ty := tX) (pc := 68) F hK hr hlk hQ0 dX0_fillKnownAfterMasks_68 (⟨L1, rfl, by rw [show G 4 0 = i by omega]; exact hmk⟩)
      · refine x_iload_n (pc := 20) F dX0_fillKnownAfterMasks_20 1 rfl rfl ?_
        refine x_bipush (v := nI 12) (pc := 21) F dX0_fillKnownAfterMasks_21 (by decide) ?_
        refine x_icmpN_ge (tgt := 68) (pc := 23) F dX0_fillKnownAfterMasks_23 (by decide) (by omega) (by decide) (fun hc_23 => absurd hc_23 (by omega)) (fun hc_23 => ?_)
        refine x_iconst (v := nI 1) (pc := 26) F dX0_fillKnownAfterMasks_26 (by decide) ?_
        refine x_iload_n (pc := 27) F dX0_fillKnownAfterMasks_27 1 rfl rfl ?_
        refine x_ishl (z := nI (1 * 2 ^ i)) (pc := 28) F dX0_fillKnownAfterMasks_28 (nx_shl (by omega) (two_12 (by omega))) ?_
        refine x_istore_n (lv' := [(0, .ref h), (1, .int (nI i)), (2, .int (nI (1 * 2 ^ i)))]) (pc := 29) F dX0_fillKnownAfterMasks_29 rfl (by decide) [1, 2, 0] rfl ?_
        obtain ⟨fi, hfi⟩ : ∃ z, z = 1 * 2 ^ i := ⟨_, rfl⟩
        have hf2 : fi = 2 ^ i := hfi.trans (Nat.one_mul _)
        have hfb : fi ≤ 2048 := by rw [hf2]; exact Nat.pow_le_pow_right (n := 2) (i := i) (j := 11) (by decide) (by omega)
        rw [← hfi]
        refine x_iconst (v := nI 0) (pc := 30) F dX0_fillKnownAfterMasks_30 (by decide) ?_
        refine x_istore_n (lv' := [(0, .ref h), (1, .int (nI i)), (2, .int (nI fi)), (3, .int (nI 0))]) (pc := 31) F dX0_fillKnownAfterMasks_31 rfl (by decide) [1, 2, 3, 0] rfl ?_
        have cut_32 : ∀ (fu : Nat) (j : Nat) (L2 : Nat → Nat), (j ≤ fi) → (mkJ G L2 i j) → (fi - j) < fu → V p l e ({ frames := 1, cells := 0, slots := 0, locals := 29 }) s m args below meth c 4 0 0 Q0 (IC wX D h q cs s (G, L2)) 32 [(0, .ref h), (1, .int (nI i)), (2, .int (nI fi)), (3, .int (nI j))] [] := by
          intro fu
          induction fu with
          | zero => intro j L2 hj hmj hfu; exact absurd hfu (Nat.not_lt_zero _)
          | succ fu ih_32 =>
            intro j L2 hj hmj hfu
            refine x_iload_n (pc := 32) F dX0_fillKnownAfterMasks_32 3 rfl rfl ?_
            refine x_iload_n (pc := 33) F dX0_fillKnownAfterMasks_33 2 rfl rfl ?_
            refine x_icmpN_ge (tgt := 62) (pc := 34) F dX0_fillKnownAfterMasks_34 (by decide) (by omega) (by omega) (fun hc_34 => ?_) (fun hc_34 => ?_)
            · refine x_iinc (v := nI (i + 1)) (lv' := [(0, .ref h), (1, .int (nI (i + 1))), (2, .int (nI fi)), (3, .int (nI j))]) (pc := 62) F dX0_fillKnownAfterMasks_62 1 rfl (nx_inc (b := 1) i (by decide)) (by decide) [1, 0, 2, 3] rfl ?_
              refine x_goto (tgt := 12) (pc := 65) F dX0_fillKnownAfterMasks_65 (by decide) ?_
              refine x_lv [0, 1] rfl ?_
              exact ih_12 (i + 1) L2 (by omega) (mkJ_e (by rw [← hf2, show fi = j by omega]; exact hmj)) (by omega)
            · have hX := kr_256 hG (tbF j) (c := i) (by omega)
              refine x_aload_n (pc := 37) F dX0_fillKnownAfterMasks_37 0 rfl rfl ?_
              refine gX_knownAfterMask (pc := 38) F hK hin hm_knownAfterMask dX0_fillKnownAfterMasks_38 ?_
              refine x_iload_n (pc := 41) F dX0_fillKnownAfterMasks_41 2 rfl rfl ?_
              refine x_iload_n (pc := 42) F dX0_fillKnownAfterMasks_42 3 rfl rfl ?_
              refine x_iadd (z := nI (fi + j)) (pc := 43) F dX0_fillKnownAfterMasks_43 (nI_add fi j) ?_
              refine x_aload_n (pc := 44) F dX0_fillKnownAfterMasks_44 0 rfl rfl ?_
              refine x_aload_n (pc := 45) F dX0_fillKnownAfterMasks_45 0 rfl rfl ?_
              refine gX_knownAfterMask (pc := 46) F hK hin hm_knownAfterMask dX0_fillKnownAfterMasks_46 ?_
              refine x_iload_n (pc := 49) F dX0_fillKnownAfterMasks_49 3 rfl rfl ?_
              refine lX_knownAfterMask (v := pkN (kr G (tbF j) i) (G 0 0)) (pc := 50) F hK dX0_fillKnownAfterMasks_50 (by omega) (hmj.1 j (by omega)) ?_
              refine x_iload_n (pc := 51) F dX0_fillKnownAfterMasks_51 1 rfl rfl ?_
              refine x_calll (w := wX) (ty := tX) (pc := 52) F hK wX_in [.long (lN (pkN (kr G (tbF j) i) (G 0 0))), .int (nI i)] [.int (nI (fi + j)), .ref (q 6)] (c_X0_knownAfterCall l G L2 (pkN (kr G (tbF j) i) (G 0 0)) i (kr G (tbF j) i) rfl hX (by omega) hG) (cwV 2 F.2.2.2.2 gX0_fillKnownAfterMasks_X0_knownAfterCall rfl rfl rfl (by decide +kernel) ⟨Nat.le_of_ble_eq_true rfl, Nat.le_of_ble_eq_true rfl⟩) rfl rfl rfl rfl (Nat.le_of_ble_eq_true rfl) dX0_fillKnownAfterMasks_52 ?_
              rintro _ _ ⟨rfl, rfl⟩
              refine sX_knownAfterMask (pc := 55) F hK dX0_fillKnownAfterMasks_55 (by omega) ?_
              refine x_iinc (v := nI (j + 1)) (lv' := [(0, .ref h), (1, .int (nI i)), (2, .int (nI fi)), (3, .int (nI (j + 1)))]) (pc := 56) F dX0_fillKnownAfterMasks_56 3 rfl (nx_inc (b := 1) j (by decide)) (by decide) [1, 2, 3, 0] rfl ?_
              refine x_goto (tgt := 32) (pc := 59) F dX0_fillKnownAfterMasks_59 (by decide) ?_
              refine x_lv [0, 1, 2, 3] rfl ?_
              exact ih_32 (j + 1) (un L2 (fi + j) (pkN (stp G i (kr G (tbF j) i)) (G 0 0))) (by omega) (by have hz := mkJ_s hmj (j := j) (by omega); rw [← hf2] at hz; exact hz) (by omega)
        refine x_lv [0, 1, 2, 3] rfl ?_
        exact cut_32 ((fi - 0) + 1) 0 L1 (Nat.zero_le _) (mkJ_0 hmk) (Nat.lt_succ_self _)
  refine x_lv [0, 1] rfl ?_
  exact cut_12 ((G 4 0 - 0) + 1) 0 (un L 0 (pkN k0 (G 0 0))) (Nat.zero_le _) (mkI_0 L) (Nat.lt_succ_self _)
set_option maxHeartbeats 4000000 in
set_option maxRecDepth 100000 in
theorem c_X0_smallestSufficientCalls (l : Launch) (G : GS) (L : Nat → Nat) (hG : ok G) : MCi wX tX l yX0_smallestSufficientCalls wsX0_smallestSufficientCalls ({ frames := 3, cells := 0, slots := 0, locals := 73 }) [] (G, L) (fun r u => ∃ L', u = (G, L') ∧ r = sp_sm G) := by
  have hG0 := hG
  obtain ⟨b1, b2, b3, b4, b5, b6, b7, b8, b9, b10, b11⟩ := hG0
  refine x_starti (cc := cX0_smallestSufficientCalls) (maxL := 7) (ret := (some .int)) (own := RX0) (by decide) rfl rfl (fun _ => Nat.le_of_ble_eq_true rfl) ?_
  intro p e s m args below meth c D h q cs F hK hr hlk Q0 hQ0
  refine x_lv (lv' := [(0, .ref h)]) [0] rfl ?_
  have hin : ∀ w ∈ wsX00, w ∈ wsX0_smallestSufficientCalls := by decide +kernel
  have hm_callTotal : Cond.fieldLink RX0 70 "GossipSchedule" "callTotal" "I" ∈ wsX0_smallestSufficientCalls := by decide +kernel
  have hm_knownAfterMask : Cond.fieldLink RX0 36 "GossipSchedule" "knownAfterMask" "[J" ∈ wsX0_smallestSufficientCalls := by decide +kernel
  refine x_aload_n (pc := 0) F dX0_smallestSufficientCalls_0 0 rfl rfl ?_
  refine gX_callTotal (v := G 4 0) (pc := 1) F hK hin hm_callTotal rfl dX0_smallestSufficientCalls_1 ?_
  refine x_bipush (v := nI 12) (pc := 4) F dX0_smallestSufficientCalls_4 (by decide) ?_
  refine x_icmpN_le (tgt := 12) (pc := 6) F dX0_smallestSufficientCalls_6 (by decide) (by omega) (by decide) (fun hc_6 => ?_) (fun hc_6 => ?_)
  · refine x_aload_n (pc := 12) F dX0_smallestSufficientCalls_12 0 rfl rfl ?_
    refine x_calli (w := wX) (ty := tX) (pc := 13) F hK wX_in [] [] (c_X0_scheduleIsComplete l G L hG) (cwV 0 F.2.2.2.2 gX0_smallestSufficientCalls_X0_scheduleIsComplete rfl rfl rfl (by decide +kernel) ⟨Nat.le_of_ble_eq_true rfl, Nat.le_of_ble_eq_true rfl⟩) rfl rfl rfl rfl (Nat.le_of_ble_eq_true rfl) dX0_smallestSufficientCalls_13 ?_
    rintro _ _ ⟨rfl, rfl⟩
    refine x_ifB_ne (tgt := 21) (pc := 16) F dX0_smallestSufficientCalls_16 (by decide) (fun hc_16 => ?_) (fun hc_16 => ?_)
    · refine x_aload_n (pc := 21) F dX0_smallestSufficientCalls_21 0 rfl rfl ?_
      refine x_callv (w := wX) (ty := tX) (pc := 22) F hK wX_in [] [] (c_X0_fillKnownAfterMasks l G L (by omega) hG) (cwV 0 F.2.2.2.2 gX0_smallestSufficientCalls_X0_fillKnownAfterMasks rfl rfl rfl (by decide +kernel) ⟨Nat.le_of_ble_eq_true rfl, Nat.le_of_ble_eq_true rfl⟩) rfl rfl rfl rfl (Nat.le_of_ble_eq_true rfl) dX0_smallestSufficientCalls_22 ?_
      rintro _ ⟨L9, rfl, hmk9⟩
      refine x_aload_n (pc := 25) F dX0_smallestSufficientCalls_25 0 rfl rfl ?_
      refine x_calll (w := wX) (ty := tX) (pc := 26) F hK wX_in [] [] (c_X0_everythingKnown l G L9 (by omega)) (cwV 0 F.2.2.2.2 gX0_smallestSufficientCalls_X0_everythingKnown rfl rfl rfl (by decide +kernel) ⟨Nat.le_of_ble_eq_true rfl, Nat.le_of_ble_eq_true rfl⟩) rfl rfl rfl rfl (Nat.le_of_ble_eq_true rfl) dX0_smallestSufficientCalls_26 ?_
      rintro _ _ ⟨rfl, rfl⟩
      refine x_lstore_n (lv' := [(0, .ref h), (1, .long (lN (evN (G 0 0))))]) (pc := 29) F dX0_smallestSufficientCalls_29 rfl (by decide) [1, 0] rfl ?_
      refine x_iconst (v := nI 1) (pc := 30) F dX0_smallestSufficientCalls_30 (by decide) ?_
      refine x_aload_n (pc := 31) F dX0_smallestSufficientCalls_31 0 rfl rfl ?_
      refine gX_callTotal (v := G 4 0) (pc := 32) F hK hin hm_callTotal rfl dX0_smallestSufficientCalls_32 ?_
      refine x_ishl (z := nI (1 * 2 ^ (G 4 0))) (pc := 35) F dX0_smallestSufficientCalls_35 (nx_shl (by omega) (two_12 (by omega))) ?_
      refine x_istore_n (lv' := [(0, .ref h), (1, .long (lN (evN (G 0 0)))), (3, .int (nI (1 * 2 ^ (G 4 0))))]) (pc := 36) F dX0_smallestSufficientCalls_36 rfl (by decide) [1, 2, 0] rfl ?_
      obtain ⟨mk, hmk⟩ : ∃ z, z = 1 * 2 ^ G 4 0 := ⟨_, rfl⟩
      have hmb : mk ≤ 4096 := hmk ▸ pow_12 (by omega)
      have hmk2 : mk = 2 ^ G 4 0 := hmk.trans (Nat.one_mul _)
      rw [← hmk]
      refine x_iconst (v := -1) (pc := 37) F dX0_smallestSufficientCalls_37 (by decide) ?_
      refine x_istore (lv' := [(0, .ref h), (1, .long (lN (evN (G 0 0)))), (3, .int (nI mk)), (4, .int ((-1)))]) (pc := 38) F dX0_smallestSufficientCalls_38 (by decide) [1, 2, 3, 0] rfl ?_
      refine x_aload_n (pc := 40) F dX0_smallestSufficientCalls_40 0 rfl rfl ?_
      refine gX_callTotal (v := G 4 0) (pc := 41) F hK hin hm_callTotal rfl dX0_smallestSufficientCalls_41 ?_
      refine x_iconst (v := nI 1) (pc := 44) F dX0_smallestSufficientCalls_44 (by decide) ?_
      refine x_iadd (z := nI (G 4 0 + 1)) (pc := 45) F dX0_smallestSufficientCalls_45 (nI_add (G 4 0) 1) ?_
      refine x_istore (lv' := [(0, .ref h), (1, .long (lN (evN (G 0 0)))), (3, .int (nI mk)), (4, .int ((-1))), (5, .int (nI (G 4 0 + 1)))]) (pc := 46) F dX0_smallestSufficientCalls_46 (by decide) [1, 2, 3, 4, 0] rfl ?_
      refine x_iconst (v := nI 0) (pc := 48) F dX0_smallestSufficientCalls_48 (by decide) ?_
      refine x_istore (lv' := [(0, .ref h), (1, .long (lN (evN (G 0 0)))), (3, .int (nI mk)), (4, .int ((-1))), (5, .int (nI (G 4 0 + 1))), (6, .int (nI 0))]) (pc := 49) F dX0_smallestSufficientCalls_49 (by decide) [1, 2, 3, 4, 5, 0] rfl ?_
      have cut_51 : ∀ (fu : Nat) (k : Nat) (best : Int32) (few : Nat), (k ≤ mk) → (few = smF G (G 4 0 + 1) k) → (best = smB G (G 4 0 + 1) k) → (few ≤ 13) → (mk - k) < fu → V p l e ({ frames := 3, cells := 0, slots := 0, locals := 73 }) s m args below meth c 7 0 0 Q0 (IC wX D h q cs s (G, L9)) 51 [(0, .ref h), (1, .long (lN (evN (G 0 0)))), (3, .int (nI mk)), (4, .int (best)), (5, .int (nI few)), (6, .int (nI k))] [] := by
        intro fu
        induction fu with
        | zero => intro k best few hk hfw hbs hf13 hfu; exact absurd hfu (Nat.not_lt_zero _)
        | succ fu ih_51 =>
          intro k best few hk hfw hbs hf13 hfu
          refine x_iload (pc := 51) F dX0_smallestSufficientCalls_51 5 rfl ?_
          refine x_iload_n (pc := 53) F dX0_smallestSufficientCalls_53 2 rfl rfl ?_
          refine x_icmpN_ge (tgt := 96) (pc := 54) F dX0_smallestSufficientCalls_54 (by decide) (by omega) (by omega) (fun hc_54 => ?_) (fun hc_54 => ?_)
          · refine x_iload (pc := 96) F dX0_smallestSufficientCalls_96 3 rfl ?_
            exact x_reti (w := wX) (ty := tX) (pc := 98) F hK hr hlk hQ0 dX0_smallestSufficientCalls_98 (⟨L9, rfl, by rw [sp_sm, if_neg (by omega), hbs, show k = 2 ^ G 4 0 by omega, sm_cls (by omega)]⟩)
          · have hX := kr_256 hG (tbF k) (c := G 4 0) (Nat.le_refl _)
            have hpl := pop_le k 12
            have hful := pk_full (X := kr G (tbF k) (G 4 0)) b2 hX
            refine x_aload_n (pc := 57) F dX0_smallestSufficientCalls_57 0 rfl rfl ?_
            refine gX_knownAfterMask (pc := 58) F hK hin hm_knownAfterMask dX0_smallestSufficientCalls_58 ?_
            refine x_iload (pc := 61) F dX0_smallestSufficientCalls_61 5 rfl ?_
            refine lX_knownAfterMask (v := pkN (kr G (tbF k) (G 4 0)) (G 0 0)) (pc := 63) F hK dX0_smallestSufficientCalls_63 (by omega) (hmk9 k (by omega)) ?_
            refine x_lload_n (pc := 64) F dX0_smallestSufficientCalls_64 1 rfl rfl ?_
            refine x_lcmp (pc := 65) F dX0_smallestSufficientCalls_65 rfl ?_
            refine x_ifL_ne (tgt := 90) (pc := 66) F dX0_smallestSufficientCalls_66 (by decide) (pk_64 b2 hX) (pk_64 b2 (ev_256 b2)) (fun hc_66 => ?_) (fun hc_66 => ?_)
            · refine x_iinc (v := nI (k + 1)) (lv' := [(0, .ref h), (1, .long (lN (evN (G 0 0)))), (3, .int (nI mk)), (4, .int (best)), (5, .int (nI few)), (6, .int (nI (k + 1)))]) (pc := 90) F dX0_smallestSufficientCalls_90 5 rfl (nx_inc (b := 1) k (by decide)) (by decide) [1, 2, 3, 4, 5, 0] rfl ?_
              refine x_goto (tgt := 51) (pc := 93) F dX0_smallestSufficientCalls_93 (by decide) ?_
              refine x_lv [0, 1, 2, 3, 4, 5] rfl ?_
              exact ih_51 (k + 1) best few (by omega) (by rw [(sm_f (fun z => hc_66 (hful.mpr z.1))).1]; exact hfw) (by rw [(sm_f (fun z => hc_66 (hful.mpr z.1))).2]; exact hbs) (by omega) (by omega)
            · refine x_iload (pc := 69) F dX0_smallestSufficientCalls_69 5 rfl ?_
              refine x_scalli (pc := 71) F [.int (nI k)] [] (c_J6_bitCount_0f7a4 l (nI k)) (va_cwS 1 F.2.2.2.2 gX0_smallestSufficientCalls_J6_bitCount_0f7a4 rfl rfl rfl (by decide +kernel) ⟨Nat.le_of_ble_eq_true rfl, Nat.le_of_ble_eq_true rfl⟩) rfl rfl (Nat.le_of_ble_eq_true rfl) dX0_smallestSufficientCalls_71 ?_
              rintro _ rfl
              rw [bcI_small _ (by omega)]
              refine x_iload (pc := 74) F dX0_smallestSufficientCalls_74 4 rfl ?_
              refine x_icmpN_ge (tgt := 90) (pc := 76) F dX0_smallestSufficientCalls_76 (by decide) (by omega) (by omega) (fun hc_76 => ?_) (fun hc_76 => ?_)
              · refine x_iinc (v := nI (k + 1)) (lv' := [(0, .ref h), (1, .long (lN (evN (G 0 0)))), (3, .int (nI mk)), (4, .int (best)), (5, .int (nI few)), (6, .int (nI (k + 1)))]) (pc := 90) F dX0_smallestSufficientCalls_90 5 rfl (nx_inc (b := 1) k (by decide)) (by decide) [1, 2, 3, 4, 5, 0] rfl ?_
                refine x_goto (tgt := 51) (pc := 93) F dX0_smallestSufficientCalls_93 (by decide) ?_
                refine x_lv [0, 1, 2, 3, 4, 5] rfl ?_
                exact ih_51 (k + 1) best few (by omega) (by rw [(sm_f (fun z => absurd z.2 (by omega))).1]; exact hfw) (by rw [(sm_f (fun z => absurd z.2 (by omega))).2]; exact hbs) (by omega) (by omega)
              · refine x_iload (pc := 79) F dX0_smallestSufficientCalls_79 5 rfl ?_
                refine x_istore (lv' := [(0, .ref h), (1, .long (lN (evN (G 0 0)))), (3, .int (nI mk)), (4, .int (nI k)), (5, .int (nI few)), (6, .int (nI k))]) (pc := 81) F dX0_smallestSufficientCalls_81 (by decide) [1, 2, 3, 0, 4, 5] rfl ?_
                refine x_iload (pc := 83) F dX0_smallestSufficientCalls_83 5 rfl ?_
                refine x_scalli (pc := 85) F [.int (nI k)] [] (c_J6_bitCount_0f7a4 l (nI k)) (va_cwS 1 F.2.2.2.2 gX0_smallestSufficientCalls_J6_bitCount_0f7a4 rfl rfl rfl (by decide +kernel) ⟨Nat.le_of_ble_eq_true rfl, Nat.le_of_ble_eq_true rfl⟩) rfl rfl (Nat.le_of_ble_eq_true rfl) dX0_smallestSufficientCalls_85 ?_
                rintro _ rfl
                rw [bcI_small _ (by omega)]
                refine x_istore (lv' := [(0, .ref h), (1, .long (lN (evN (G 0 0)))), (3, .int (nI mk)), (4, .int (nI k)), (5, .int (nI (popN k 12))), (6, .int (nI k))]) (pc := 88) F dX0_smallestSufficientCalls_88 (by decide) [1, 2, 3, 4, 0, 5] rfl ?_
                refine x_iinc (v := nI (k + 1)) (lv' := [(0, .ref h), (1, .long (lN (evN (G 0 0)))), (3, .int (nI mk)), (4, .int (nI k)), (5, .int (nI (popN k 12))), (6, .int (nI (k + 1)))]) (pc := 90) F dX0_smallestSufficientCalls_90 5 rfl (nx_inc (b := 1) k (by decide)) (by decide) [1, 2, 3, 4, 5, 0] rfl ?_
                refine x_goto (tgt := 51) (pc := 93) F dX0_smallestSufficientCalls_93 (by decide) ?_
                refine x_lv [0, 1, 2, 3, 4, 5] rfl ?_
                exact ih_51 (k + 1) (nI k) (popN k 12) (by omega) ((sm_t ⟨hful.mp hc_66, by omega⟩).1).symm ((sm_t ⟨hful.mp hc_66, by omega⟩).2).symm (by omega) (by omega)
      refine x_lv [0, 1, 2, 3, 4, 5] rfl ?_
      exact cut_51 ((mk - 0) + 1) 0 ((-1)) (G 4 0 + 1) (Nat.zero_le _) rfl rfl (by omega) (Nat.lt_succ_self _)
    · refine x_iconst (v := -1) (pc := 19) F dX0_smallestSufficientCalls_19 (by decide) ?_
      exact x_reti (w := wX) (ty := tX) (pc := 20) F hK hr hlk hQ0 dX0_smallestSufficientCalls_20 (⟨L, rfl, by rw [sp_sm, if_neg (by omega), sm_inc hG hc_16]⟩)
  · refine x_bipush (v := -15) (pc := 9) F dX0_smallestSufficientCalls_9 (by decide) ?_
    exact x_reti (w := wX) (ty := tX) (pc := 11) F hK hr hlk hQ0 dX0_smallestSufficientCalls_11 (⟨L, rfl, by rw [sp_sm, if_pos (by omega)]⟩)
