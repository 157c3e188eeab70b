set_option maxHeartbeats 4000000 in
set_option maxRecDepth 100000 in
theorem c_X0_firstRefusedCall (l : Launch) (G : GS) (L : Nat → Nat) (hG : ok G) (hwh : whole G) : MCi wX tX l yX0_firstRefusedCall wsX0_firstRefusedCall ({ frames := 2, cells := 0, slots := 0, locals := 46 }) [] (G, L) (fun r u => u = (G, L) ∧ r = er G) := by
  have hG0 := hG
  obtain ⟨b1, b2, b3, b4, b5, b6, b7, b8, b9, b10, b11⟩ := hG0
  refine x_starti (cc := cX0_firstRefusedCall) (maxL := 5) (ret := (some .int)) (own := RX0) (by decide) rfl rfl (fun _ => Nat.le_of_ble_eq_true rfl) ?_
  intro p e s m args below meth c D h q cs F hK hr hlk Q0 hQ0
  refine x_lv (lv' := [(0, .ref h)]) [0] rfl ?_
  have hin : ∀ w ∈ wsX00, w ∈ wsX0_firstRefusedCall := by decide +kernel
  have hm_inputLength : Cond.fieldLink RX0 77 "GossipSchedule" "inputLength" "I" ∈ wsX0_firstRefusedCall := by decide +kernel
  have hm_input : Cond.fieldLink RX0 33 "GossipSchedule" "input" "[I" ∈ wsX0_firstRefusedCall := by decide +kernel
  refine x_iconst (v := nI 0) (pc := 0) F dX0_firstRefusedCall_0 (by decide) ?_
  refine x_istore_n (lv' := [(0, .ref h), (1, .int (nI 0))]) (pc := 1) F dX0_firstRefusedCall_1 rfl (by decide) [1, 0] rfl ?_
  refine x_iconst (v := nI 0) (pc := 2) F dX0_firstRefusedCall_2 (by decide) ?_
  refine x_istore_n (lv' := [(0, .ref h), (1, .int (nI 0)), (2, .int (nI 0))]) (pc := 3) F dX0_firstRefusedCall_3 rfl (by decide) [1, 2, 0] rfl ?_
  have cut_4 : ∀ (fu : Nat) (t : Nat) (bz : Nat), (4 * t ≤ G 10 0 + 1) → (hdS G t bz) → (erF G ((G 10 0 + 1) / 4 - t) t = er G) → (G 10 0 + 1 - 4 * t) < fu → V p l e ({ frames := 2, cells := 0, slots := 0, locals := 46 }) s m args below meth c 5 0 0 Q0 (IC wX D h q cs s (G, L)) 4 [(0, .ref h), (1, .int (nI bz)), (2, .int (nI (4 * t)))] [] := by
    intro fu
    induction fu with
    | zero => intro t bz ht hd her hfu; exact absurd hfu (Nat.not_lt_zero _)
    | succ fu ih_4 =>
      intro t bz ht hd her hfu
      refine x_iload_n (pc := 4) F dX0_firstRefusedCall_4 2 rfl rfl ?_
      refine x_iconst (v := nI 2) (pc := 5) F dX0_firstRefusedCall_5 (by decide) ?_
      refine x_iadd (z := nI ((4 * t) + 2)) (pc := 6) F dX0_firstRefusedCall_6 (nI_add (4 * t) 2) ?_
      refine x_aload_n (pc := 7) F dX0_firstRefusedCall_7 0 rfl rfl ?_
      refine gX_inputLength (v := G 10 0) (pc := 8) F hK hin hm_inputLength rfl dX0_firstRefusedCall_8 ?_
      refine x_icmpN_ge (tgt := 117) (pc := 11) F dX0_firstRefusedCall_11 (by decide) (by omega) (by omega) (fun hc_11 => ?_) (fun hc_11 => ?_)
      · refine x_iconst (v := nI 0) (pc := 117) F dX0_firstRefusedCall_117 (by decide) ?_
        exact x_reti (w := wX) (ty := tX) (pc := 118) F hK hr hlk hQ0 dX0_firstRefusedCall_118 (⟨rfl, by rw [← her, show (G 10 0 + 1) / 4 - t = 0 by omega]; rfl⟩)
      · obtain ⟨i1, i2, i3, i4, i5⟩ := in_ok hG hwh (t := t) (by omega)
        have hp1 : G 9 (4 * t - 1) ≤ 126 := (b10 _ (by omega)).2
        have ia : inA G t < 8 := show G 9 (4 * t) - 48 < 8 by omega
        have ib : inB G t < 8 := show G 9 (4 * t + 2) - 48 < 8 by omega
        have ian : inA G t < G 0 0 := show G 9 (4 * t) - 48 < G 0 0 by omega
        have ibn : inB G t < G 0 0 := show G 9 (4 * t + 2) - 48 < G 0 0 by omega
        refine x_aload_n (pc := 14) F dX0_firstRefusedCall_14 0 rfl rfl ?_
        have cut_24 : ∀ (ef : Nat), (inS G t ef) → V p l e ({ frames := 2, cells := 0, slots := 0, locals := 46 }) s m args below meth c 5 0 0 Q0 (IC wX D h q cs s (G, L)) 24 [(0, .ref h), (1, .int (nI ef)), (2, .int (nI (4 * t)))] [] := by
          intro ef hef
          refine x_aload_n (pc := 24) F dX0_firstRefusedCall_24 0 rfl rfl ?_
          refine gX_input (pc := 25) F hK hin hm_input dX0_firstRefusedCall_25 ?_
          refine x_iload_n (pc := 28) F dX0_firstRefusedCall_28 2 rfl rfl ?_
          refine lX_input (v := G 9 (4 * t)) (pc := 29) F hK dX0_firstRefusedCall_29 (by omega) rfl ?_
          refine x_bipush (v := nI 48) (pc := 30) F dX0_firstRefusedCall_30 (by decide) ?_
          refine x_isub (z := nI ((G 9 (4 * t)) - 48)) (pc := 32) F dX0_firstRefusedCall_32 (pk_sub (by omega)) ?_
          refine x_istore_n (lv' := [(0, .ref h), (1, .int (nI ef)), (2, .int (nI (4 * t))), (3, .int (nI ((G 9 (4 * t)) - 48)))]) (pc := 33) F dX0_firstRefusedCall_33 rfl (by decide) [1, 2, 3, 0] rfl ?_
          refine x_lv (lv' := [(0, .ref h), (1, .int (nI ef)), (2, .int (nI (4 * t))), (3, .int (nI (inA G t)))]) [0, 1, 2, 3] rfl ?_
          refine x_aload_n (pc := 34) F dX0_firstRefusedCall_34 0 rfl rfl ?_
          refine gX_input (pc := 35) F hK hin hm_input dX0_firstRefusedCall_35 ?_
          refine x_iload_n (pc := 38) F dX0_firstRefusedCall_38 2 rfl rfl ?_
          refine x_iconst (v := nI 2) (pc := 39) F dX0_firstRefusedCall_39 (by decide) ?_
          refine x_iadd (z := nI ((4 * t) + 2)) (pc := 40) F dX0_firstRefusedCall_40 (nI_add (4 * t) 2) ?_
          refine lX_input (v := G 9 ((4 * t) + 2)) (pc := 41) F hK dX0_firstRefusedCall_41 (by omega) rfl ?_
          refine x_bipush (v := nI 48) (pc := 42) F dX0_firstRefusedCall_42 (by decide) ?_
          refine x_isub (z := nI ((G 9 ((4 * t) + 2)) - 48)) (pc := 44) F dX0_firstRefusedCall_44 (pk_sub (by omega)) ?_
          refine x_istore (lv' := [(0, .ref h), (1, .int (nI ef)), (2, .int (nI (4 * t))), (3, .int (nI (inA G t))), (4, .int (nI ((G 9 ((4 * t) + 2)) - 48)))]) (pc := 45) F dX0_firstRefusedCall_45 (by decide) [1, 2, 3, 4, 0] rfl ?_
          refine x_lv (lv' := [(0, .ref h), (1, .int (nI ef)), (2, .int (nI (4 * t))), (3, .int (nI (inA G t))), (4, .int (nI (inB G t)))]) [0, 1, 2, 3, 4] rfl ?_
          refine x_aload_n (pc := 47) F dX0_firstRefusedCall_47 0 rfl rfl ?_
          refine x_iload_n (pc := 48) F dX0_firstRefusedCall_48 3 rfl rfl ?_
          refine x_iload (pc := 49) F dX0_firstRefusedCall_49 4 rfl ?_
          refine x_calli (w := wX) (ty := tX) (pc := 51) F hK wX_in [.int (nI (inA G t)), .int (nI (inB G t))] [] (c_X0_graphJoins l G L (inA G t) (inB G t) (by have hq_0 : G 0 0 = G 0 0 := rfl; omega) (by have hq_0 : G 0 0 = G 0 0 := rfl; omega) (by have hq_0 : G 0 0 = G 0 0 := rfl; omega) (by have hq_2 : G 2 0 = G 2 0 := rfl; omega)) (cwV 2 F.2.2.2.2 gX0_firstRefusedCall_X0_graphJoins rfl rfl rfl (by decide +kernel) ⟨Nat.le_of_ble_eq_true rfl, Nat.le_of_ble_eq_true rfl⟩) rfl rfl rfl rfl (Nat.le_of_ble_eq_true rfl) dX0_firstRefusedCall_51 ?_
          rintro _ _ ⟨rfl, rfl⟩
          refine x_ifB_ne (tgt := 60) (pc := 54) F dX0_firstRefusedCall_54 (by decide) (fun hc_54 => ?_) (fun hc_54 => ?_)
          · refine x_iload_n (pc := 60) F dX0_firstRefusedCall_60 1 rfl rfl ?_
            refine x_iload_n (pc := 61) F dX0_firstRefusedCall_61 3 rfl rfl ?_
            refine x_iload (pc := 62) F dX0_firstRefusedCall_62 4 rfl ?_
            refine x_scalli (pc := 64) F [.int (nI (inA G t)), .int (nI (inB G t))] [.int (nI ef)] (c_X0_pairOf l (inA G t) (inB G t) (by omega) (by omega)) (va_cwS 2 F.2.2.2.2 gX0_firstRefusedCall_X0_pairOf rfl rfl rfl (by decide +kernel) ⟨Nat.le_of_ble_eq_true rfl, Nat.le_of_ble_eq_true rfl⟩) rfl rfl (Nat.le_of_ble_eq_true rfl) dX0_firstRefusedCall_64 ?_
            rintro _ rfl
            refine x_iand (z := nI (ef &&& (1 * 2 ^ (inA G t) ||| 1 * 2 ^ (inB G t)))) (pc := 67) F dX0_firstRefusedCall_67 (nx_and ef (1 * 2 ^ (inA G t) ||| 1 * 2 ^ (inB G t))) ?_
            refine x_ifN_eq (tgt := 74) (pc := 68) F dX0_firstRefusedCall_68 (by decide) (and_pair_lt _ hef.1) (fun hc_68 => ?_) (fun hc_68 => ?_)
            · have hbz9 : ¬ (bsy G (inA G t) t = true ∨ bsy G (inB G t) t = true) := by
                have hz := (and_pair ef (inA G t) (inB G t)).mp hc_68
                rw [hef.2 (inA G t) ia, hef.2 (inB G t) ib] at hz
                rw [hz.1, hz.2]; decide
              clear hc_68
              refine x_aload_n (pc := 74) F dX0_firstRefusedCall_74 0 rfl rfl ?_
              have cut_93 : ∀ (w : Nat), (w = inW G t) → V p l e ({ frames := 2, cells := 0, slots := 0, locals := 46 }) s m args below meth c 5 0 0 Q0 (IC wX D h q cs s (G, L)) 93 [(0, .ref h), (1, .int (nI ef)), (2, .int (nI (4 * t))), (3, .int (nI (inA G t))), (4, .int (nI (inB G t)))] [.int (nI w), .ref h] := by
                intro w hw
                have hw2 : w < 2 := hw ▸ bN_lt _
                refine x_calli (w := wX) (ty := tX) (pc := 93) F hK wX_in [.int (nI w)] [] (c_X0_modeAccepts l G L w (by omega) (by omega)) (cwV 1 F.2.2.2.2 gX0_firstRefusedCall_X0_modeAccepts rfl rfl rfl (by decide +kernel) ⟨Nat.le_of_ble_eq_true rfl, Nat.le_of_ble_eq_true rfl⟩) rfl rfl rfl rfl (Nat.le_of_ble_eq_true rfl) dX0_firstRefusedCall_93 ?_
                rintro _ _ ⟨rfl, rfl⟩
                refine x_ifB_ne (tgt := 102) (pc := 96) F dX0_firstRefusedCall_96 (by decide) (fun hc_96 => ?_) (fun hc_96 => ?_)
                · refine x_iload_n (pc := 102) F dX0_firstRefusedCall_102 1 rfl rfl ?_
                  refine x_iload_n (pc := 103) F dX0_firstRefusedCall_103 3 rfl rfl ?_
                  refine x_iload (pc := 104) F dX0_firstRefusedCall_104 4 rfl ?_
                  refine x_scalli (pc := 106) F [.int (nI (inA G t)), .int (nI (inB G t))] [.int (nI ef)] (c_X0_pairOf l (inA G t) (inB G t) (by omega) (by omega)) (va_cwS 2 F.2.2.2.2 gX0_firstRefusedCall_X0_pairOf rfl rfl rfl (by decide +kernel) ⟨Nat.le_of_ble_eq_true rfl, Nat.le_of_ble_eq_true rfl⟩) rfl rfl (Nat.le_of_ble_eq_true rfl) dX0_firstRefusedCall_106 ?_
                  rintro _ rfl
                  refine x_ior (z := nI (ef ||| (1 * 2 ^ (inA G t) ||| 1 * 2 ^ (inB G t)))) (pc := 109) F dX0_firstRefusedCall_109 (nx_or ef (1 * 2 ^ (inA G t) ||| 1 * 2 ^ (inB G t))) ?_
                  refine x_istore_n (lv' := [(0, .ref h), (1, .int (nI (ef ||| (1 * 2 ^ (inA G t) ||| 1 * 2 ^ (inB G t))))), (2, .int (nI (4 * t))), (3, .int (nI (inA G t))), (4, .int (nI (inB G t)))]) (pc := 110) F dX0_firstRefusedCall_110 rfl (by decide) [1, 0, 2, 3, 4] rfl ?_
                  refine x_iinc (v := nI ((4 * t) + 4)) (lv' := [(0, .ref h), (1, .int (nI (ef ||| (1 * 2 ^ (inA G t) ||| 1 * 2 ^ (inB G t))))), (2, .int (nI ((4 * t) + 4))), (3, .int (nI (inA G t))), (4, .int (nI (inB G t)))]) (pc := 111) F dX0_firstRefusedCall_111 2 rfl (nx_inc (b := 4) (4 * t) (by decide)) (by decide) [1, 2, 0, 3, 4] rfl ?_
                  refine x_goto (tgt := 4) (pc := 114) F dX0_firstRefusedCall_114 (by decide) ?_
                  refine x_lv [0, 1, 2] rfl ?_
                  exact ih_4 (t + 1) (ef ||| (1 * 2 ^ (inA G t) ||| 1 * 2 ^ (inB G t))) (by omega) (hdS_s hef ia ib) ((erF_next (by omega) hc_54 hbz9 (by rw [← hw]; exact hc_96)).trans her) (by omega)
                · refine x_bipush (v := -11) (pc := 99) F dX0_firstRefusedCall_99 (by decide) ?_
                  exact x_reti (w := wX) (ty := tX) (pc := 101) F hK hr hlk hQ0 dX0_firstRefusedCall_101 (⟨rfl, by have hacc : ¬ acc G (inW G t) := (by rw [← hw]; exact hc_96); rw [← her, erF_s (by omega), if_pos hc_54, if_neg hbz9, if_neg hacc]⟩)
              refine x_aload_n (pc := 75) F dX0_firstRefusedCall_75 0 rfl rfl ?_
              refine gX_input (pc := 76) F hK hin hm_input dX0_firstRefusedCall_76 ?_
              refine x_iload_n (pc := 79) F dX0_firstRefusedCall_79 2 rfl rfl ?_
              refine x_iconst (v := nI 1) (pc := 80) F dX0_firstRefusedCall_80 (by decide) ?_
              refine x_iadd (z := nI ((4 * t) + 1)) (pc := 81) F dX0_firstRefusedCall_81 (nI_add (4 * t) 1) ?_
              refine lX_input (v := G 9 ((4 * t) + 1)) (pc := 82) F hK dX0_firstRefusedCall_82 (by omega) rfl ?_
              refine x_bipush (v := nI 62) (pc := 83) F dX0_firstRefusedCall_83 (by decide) ?_
              refine x_icmpN_ne (tgt := 92) (pc := 85) F dX0_firstRefusedCall_85 (by decide) (by omega) (by decide) (fun hc_85 => ?_) (fun hc_85 => ?_)
              · refine x_iconst (v := nI 0) (pc := 92) F dX0_firstRefusedCall_92 (by decide) ?_
                refine x_lv [0, 1, 2, 3, 4] rfl ?_
                exact cut_93 0 (bN_f hc_85).symm
              · refine x_iconst (v := nI 1) (pc := 88) F dX0_firstRefusedCall_88 (by decide) ?_
                refine x_goto (tgt := 93) (pc := 89) F dX0_firstRefusedCall_89 (by decide) ?_
                refine x_lv [0, 1, 2, 3, 4] rfl ?_
                exact cut_93 1 (bN_t hc_85).symm
            · have hbz9 : bsy G (inA G t) t = true ∨ bsy G (inB G t) t = true := by
                rw [← hef.2 (inA G t) ia, ← hef.2 (inB G t) ib]
                apply Decidable.byContradiction
                intro hz
                rw [not_or, Bool.not_eq_true, Bool.not_eq_true] at hz
                exact hc_68 ((and_pair ef (inA G t) (inB G t)).mpr hz)
              refine x_bipush (v := -9) (pc := 71) F dX0_firstRefusedCall_71 (by decide) ?_
              exact x_reti (w := wX) (ty := tX) (pc := 73) F hK hr hlk hQ0 dX0_firstRefusedCall_73 (⟨rfl, by rw [← her, erF_s (by omega), if_pos hc_54, if_pos hbz9]⟩)
          · refine x_bipush (v := -10) (pc := 57) F dX0_firstRefusedCall_57 (by decide) ?_
            exact x_reti (w := wX) (ty := tX) (pc := 59) F hK hr hlk hQ0 dX0_firstRefusedCall_59 (⟨rfl, by rw [← her, erF_s (by omega), if_neg hc_54]⟩)
        refine x_iload_n (pc := 15) F dX0_firstRefusedCall_15 2 rfl rfl ?_
        refine x_calli (w := wX) (ty := tX) (pc := 16) F hK wX_in [.int (nI (4 * t))] [] (c_X0_beginsRound l G L (4 * t) (by omega) (fun _ => hp1)) (cwV 1 F.2.2.2.2 gX0_firstRefusedCall_X0_beginsRound rfl rfl rfl (by decide +kernel) ⟨Nat.le_of_ble_eq_true rfl, Nat.le_of_ble_eq_true rfl⟩) rfl rfl rfl rfl (Nat.le_of_ble_eq_true rfl) dX0_firstRefusedCall_16 ?_
        rintro _ _ ⟨rfl, rfl⟩
        refine x_ifB_eq (tgt := 24) (pc := 19) F dX0_firstRefusedCall_19 (by decide) (fun hc_19 => ?_) (fun hc_19 => ?_)
        · refine x_lv [0, 1, 2] rfl ?_
          exact cut_24 bz (inS_not hc_19 hd i5)
        · refine x_iconst (v := nI 0) (pc := 22) F dX0_firstRefusedCall_22 (by decide) ?_
          refine x_istore_n (lv' := [(0, .ref h), (1, .int (nI 0)), (2, .int (nI (4 * t)))]) (pc := 23) F dX0_firstRefusedCall_23 rfl (by decide) [1, 0, 2] rfl ?_
          refine x_lv [0, 1, 2] rfl ?_
          exact cut_24 0 (inS_beg hc_19)
  refine x_lv [0, 1, 2] rfl ?_
  exact cut_4 ((G 10 0 + 1 - 4 * 0) + 1) 0 0 (Nat.zero_le _) (hdS_0 G) rfl (Nat.lt_succ_self _)
