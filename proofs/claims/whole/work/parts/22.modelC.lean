set_option maxHeartbeats 4000000 in
set_option maxRecDepth 100000 in
theorem c_X1_buildDoubling (l : Launch) (G : GS) (K : Nat → Nat) (hs : Int64) (hG : ok G) : MCi wM tM l yX1_buildDoubling wsX1_buildDoubling ({ frames := 1, cells := 0, slots := 0, locals := 23 }) [] (G, K, hs) (fun r u => u = (sg_dbl G, K, hs) ∧ r = sp_dbl G) := by
  have hG0 := hG
  obtain ⟨b1, b2, b3, b4, b5, b6, b7, b8, b9, b10, b11⟩ := hG0
  refine x_starti (cc := cX1_buildDoubling) (maxL := 3) (ret := (some .int)) (own := RX1) (by decide) rfl rfl (fun _ => Nat.le_of_ble_eq_true rfl) ?_
  intro p e s m args below meth c D h q cs F hK hr hlk Q0 hQ0
  refine x_lv (lv' := [(0, .ref h)]) [0] rfl ?_
  have hin : ∀ w ∈ wsX10, w ∈ wsX1_buildDoubling := by decide +kernel
  have hm_mode : Cond.fieldLink RX1 37 "GossipScheduleModel" "mode" "I" ∈ wsX1_buildDoubling := by decide +kernel
  have hm_graph : Cond.fieldLink RX1 40 "GossipScheduleModel" "graph" "I" ∈ wsX1_buildDoubling := by decide +kernel
  have hm_persons : Cond.fieldLink RX1 7 "GossipScheduleModel" "persons" "I" ∈ wsX1_buildDoubling := by decide +kernel
  have hm_rounds : Cond.fieldLink RX1 43 "GossipScheduleModel" "rounds" "I" ∈ wsX1_buildDoubling := by decide +kernel
  have hm_calls : Cond.fieldLink RX1 46 "GossipScheduleModel" "calls" "I" ∈ wsX1_buildDoubling := by decide +kernel
  refine x_aload_n (pc := 0) F dX1_buildDoubling_0 0 rfl rfl ?_
  refine x_calli (w := wM) (ty := tM) (pc := 1) F hK wM_in [] [] (c_X1_isPower l G K hs (by omega)) (cwV 0 F.2.2.2.2 gX1_buildDoubling_X1_isPower rfl rfl rfl (by decide +kernel) ⟨Nat.le_of_ble_eq_true rfl, Nat.le_of_ble_eq_true rfl⟩) rfl rfl rfl rfl (Nat.le_of_ble_eq_true rfl) dX1_buildDoubling_1 ?_
  rintro _ _ ⟨rfl, rfl⟩
  refine x_ifB_ne (tgt := 10) (pc := 4) F dX1_buildDoubling_4 (by decide) (fun hc_4 => ?_) (fun hc_4 => ?_)
  · refine x_aload_n (pc := 10) F dX1_buildDoubling_10 0 rfl rfl ?_
    refine gM_mode (v := G 1 0) (pc := 11) F hK hin hm_mode rfl dX1_buildDoubling_11 ?_
    refine x_iconst (v := nI 2) (pc := 14) F dX1_buildDoubling_14 (by decide) ?_
    refine x_icmpN_ne (tgt := 21) (pc := 15) F dX1_buildDoubling_15 (by decide) (by omega) (by decide) (fun hc_15 => ?_) (fun hc_15 => ?_)
    · refine x_aload_n (pc := 21) F dX1_buildDoubling_21 0 rfl rfl ?_
      refine gM_graph (v := G 2 0) (pc := 22) F hK hin hm_graph rfl dX1_buildDoubling_22 ?_
      refine x_ifN_eq (tgt := 39) (pc := 25) F dX1_buildDoubling_25 (by decide) (by omega) (fun hc_25 => ?_) (fun hc_25 => ?_)
      · refine x_aload_n (pc := 39) F dX1_buildDoubling_39 0 rfl rfl ?_
        refine x_callv (w := wM) (ty := tM) (pc := 40) F hK wM_in [] [] (c_X1_clear l G K hs) (cwV 0 F.2.2.2.2 gX1_buildDoubling_X1_clear rfl rfl rfl (by decide +kernel) ⟨Nat.le_of_ble_eq_true rfl, Nat.le_of_ble_eq_true rfl⟩) rfl rfl rfl rfl (Nat.le_of_ble_eq_true rfl) dX1_buildDoubling_40 ?_
        rintro _ rfl
        refine x_iconst (v := nI 1) (pc := 43) F dX1_buildDoubling_43 (by decide) ?_
        refine x_istore_n (lv' := [(0, .ref h), (1, .int (nI 1))]) (pc := 44) F dX1_buildDoubling_44 rfl (by decide) [1, 0] rfl ?_
        refine x_I (congrArg (fun g => IC wM D h q cs s (g, K, hs)) (show dropG G = dbO G 0 from rfl)) ?_
        have cut_45 : ∀ (fu : Nat) (k : Nat) (stp : Nat), ((k = 0 ∧ stp = 1) ∨ (k = 1 ∧ stp = 2) ∨ (k = 2 ∧ stp = 4) ∨ (k = 3 ∧ stp = 8)) → (stp ≤ G 0 0) → (3 - k) < fu → V p l e ({ frames := 1, cells := 0, slots := 0, locals := 23 }) s m args below meth c 3 0 0 Q0 (IC wM D h q cs s (dbO G k, K, hs)) 45 [(0, .ref h), (1, .int (nI stp))] [] := by
          intro fu
          induction fu with
          | zero => intro k stp hkk hks hfu; exact absurd hfu (Nat.not_lt_zero _)
          | succ fu ih_45 =>
            intro k stp hkk hks hfu
            refine x_iload_n (pc := 45) F dX1_buildDoubling_45 1 rfl rfl ?_
            refine x_aload_n (pc := 46) F dX1_buildDoubling_46 0 rfl rfl ?_
            refine gM_persons (v := G 0 0) (pc := 47) F hK hin hm_persons (dbO_o G 0 (by decide) k) dX1_buildDoubling_47 ?_
            refine x_icmpN_ge (tgt := 101) (pc := 50) F dX1_buildDoubling_50 (by decide) (by omega) (by omega) (fun hc_50 => ?_) (fun hc_50 => ?_)
            · refine x_aload_n (pc := 101) F dX1_buildDoubling_101 0 rfl rfl ?_
              refine gM_calls (v := (dbO G k) 4 0) (pc := 102) F hK hin hm_calls rfl dX1_buildDoubling_102 ?_
              exact x_reti (w := wM) (ty := tM) (pc := 105) F hK hr hlk hQ0 dX1_buildDoubling_105 (⟨by rw [sg_dbl, if_pos hc_4, if_neg (by omega), if_pos (by omega), lg_end hc_4 hkk hks (by omega)], by rw [sp_dbl, if_pos hc_4, if_neg (by omega), if_pos (by omega), lg_end hc_4 hkk hks (by omega)]⟩)
            · have h4 : dbO G k 4 0 ≤ 8 * k := Nat.le_trans (dbO_4 G k) (Nat.mul_le_mul_right k b2)
              refine x_aload_n (pc := 53) F dX1_buildDoubling_53 0 rfl rfl ?_
              refine x_dup (pc := 54) F dX1_buildDoubling_54 rfl ?_
              refine gM_rounds (v := (dbO G k) 3 0) (pc := 55) F hK hin hm_rounds rfl dX1_buildDoubling_55 ?_
              refine x_iconst (v := nI 1) (pc := 58) F dX1_buildDoubling_58 (by decide) ?_
              refine x_iadd (z := nI (((dbO G k) 3 0) + 1)) (pc := 59) F dX1_buildDoubling_59 (nI_add ((dbO G k) 3 0) 1) ?_
              refine pM_rounds (pc := 60) F hK hin hm_rounds dX1_buildDoubling_60 ?_
              refine x_iconst (v := nI 0) (pc := 63) F dX1_buildDoubling_63 (by decide) ?_
              refine x_istore_n (lv' := [(0, .ref h), (1, .int (nI stp)), (2, .int (nI 0))]) (pc := 64) F dX1_buildDoubling_64 rfl (by decide) [1, 2, 0] rfl ?_
              refine x_I (congrArg (fun g => IC wM D h q cs s (g, K, hs)) (show up (dbO G k) 3 0 (((dbO G k) 3 0) + 1) = dbI (up (dbO G k) 3 0 (dbO G k 3 0 + 1)) stp 0 from rfl)) ?_
              have cut_65 : ∀ (fu : Nat) (pp : Nat), (pp ≤ G 0 0) → (G 0 0 - pp) < fu → V p l e ({ frames := 1, cells := 0, slots := 0, locals := 23 }) s m args below meth c 3 0 0 Q0 (IC wM D h q cs s (dbI (up (dbO G k) 3 0 (dbO G k 3 0 + 1)) stp pp, K, hs)) 65 [(0, .ref h), (1, .int (nI stp)), (2, .int (nI pp))] [] := by
                intro fu
                induction fu with
                | zero => intro pp hpp hfu; exact absurd hfu (Nat.not_lt_zero _)
                | succ fu ih_65 =>
                  intro pp hpp hfu
                  refine x_iload_n (pc := 65) F dX1_buildDoubling_65 2 rfl rfl ?_
                  refine x_aload_n (pc := 66) F dX1_buildDoubling_66 0 rfl rfl ?_
                  refine gM_persons (v := G 0 0) (pc := 67) F hK hin hm_persons ((dbI_o _ _ 0 (by decide) pp).trans (dbO_o G 0 (by decide) k)) dX1_buildDoubling_67 ?_
                  refine x_icmpN_ge (tgt := 94) (pc := 70) F dX1_buildDoubling_70 (by decide) (by omega) (by omega) (fun hc_70 => ?_) (fun hc_70 => ?_)
                  · refine x_iload_n (pc := 94) F dX1_buildDoubling_94 1 rfl rfl ?_
                    refine x_iconst (v := nI 2) (pc := 95) F dX1_buildDoubling_95 (by decide) ?_
                    refine x_imul (z := nI (stp * 2)) (pc := 96) F dX1_buildDoubling_96 (pk_mul stp 2) ?_
                    refine x_istore_n (lv' := [(0, .ref h), (1, .int (nI (stp * 2))), (2, .int (nI pp))]) (pc := 97) F dX1_buildDoubling_97 rfl (by decide) [1, 0, 2] rfl ?_
                    refine x_goto (tgt := 45) (pc := 98) F dX1_buildDoubling_98 (by decide) ?_
                    refine x_I (congrArg (fun g => IC wM D h q cs s (g, K, hs)) (show dbI (up (dbO G k) 3 0 (dbO G k 3 0 + 1)) stp pp = dbO G (k + 1) from (by rw [show pp = G 0 0 by omega, dbI_fin hc_4 (by omega) hc_50, lg_pow hkk]; rfl))) ?_
                    refine x_lv [0, 1] rfl ?_
                    exact ih_45 (k + 1) (stp * 2) (by omega) (by omega) (by omega)
                  · have hd4 : dbI (up (dbO G k) 3 0 (dbO G k 3 0 + 1)) stp pp 4 0 ≤ dbO G k 4 0 + pp := dbI_4 (up (dbO G k) 3 0 (dbO G k 3 0 + 1)) stp pp
                    refine x_iload_n (pc := 73) F dX1_buildDoubling_73 2 rfl rfl ?_
                    refine x_iload_n (pc := 74) F dX1_buildDoubling_74 1 rfl rfl ?_
                    refine x_iand (z := nI (pp &&& stp)) (pc := 75) F dX1_buildDoubling_75 (nx_and pp stp) ?_
                    refine x_ifN_ne (tgt := 88) (pc := 76) F dX1_buildDoubling_76 (by decide) (and_pair_lt _ (by omega)) (fun hc_76 => ?_) (fun hc_76 => ?_)
                    · refine x_iinc (v := nI (pp + 1)) (lv' := [(0, .ref h), (1, .int (nI stp)), (2, .int (nI (pp + 1)))]) (pc := 88) F dX1_buildDoubling_88 2 rfl (nx_inc (b := 1) pp (by decide)) (by decide) [1, 2, 0] rfl ?_
                      refine x_goto (tgt := 65) (pc := 91) F dX1_buildDoubling_91 (by decide) ?_
                      refine x_I (congrArg (fun g => IC wM D h q cs s (g, K, hs)) (show dbI (up (dbO G k) 3 0 (dbO G k 3 0 + 1)) stp pp = dbI (up (dbO G k) 3 0 (dbO G k 3 0 + 1)) stp (pp + 1) from (dbI_f hc_76).symm)) ?_
                      refine x_lv [0, 1, 2] rfl ?_
                      exact ih_65 (pp + 1) (by omega) (by omega)
                    · refine x_aload_n (pc := 79) F dX1_buildDoubling_79 0 rfl rfl ?_
                      refine x_iload_n (pc := 80) F dX1_buildDoubling_80 2 rfl rfl ?_
                      refine x_iload_n (pc := 81) F dX1_buildDoubling_81 2 rfl rfl ?_
                      refine x_iload_n (pc := 82) F dX1_buildDoubling_82 1 rfl rfl ?_
                      refine x_iadd (z := nI (pp + stp)) (pc := 83) F dX1_buildDoubling_83 (nI_add pp stp) ?_
                      refine x_iconst (v := nI 0) (pc := 84) F dX1_buildDoubling_84 (by decide) ?_
                      refine x_callv (w := wM) (ty := tM) (pc := 85) F hK wM_in [.int (nI pp), .int (nI (pp + stp)), .int (nI 0)] [] (c_X1_lay l (dbI (up (dbO G k) 3 0 (dbO G k 3 0 + 1)) stp pp) K hs pp (pp + stp) 0 (by omega) (by have hq_4 : (dbI (up (dbO G k) 3 0 (dbO G k 3 0 + 1)) stp pp) 4 0 = (dbI (up (dbO G k) 3 0 (dbO G k 3 0 + 1)) stp pp) 4 0 := rfl; omega) (by have hq_3 : (dbI (up (dbO G k) 3 0 (dbO G k 3 0 + 1)) stp pp) 3 0 = dbO G k 3 0 + 1 := (dbI_o _ _ 0 (by decide) pp); omega)) (cwV 3 F.2.2.2.2 gX1_buildDoubling_X1_lay rfl rfl rfl (by decide +kernel) ⟨Nat.le_of_ble_eq_true rfl, Nat.le_of_ble_eq_true rfl⟩) rfl rfl rfl rfl (Nat.le_of_ble_eq_true rfl) dX1_buildDoubling_85 ?_
                      rintro _ rfl
                      refine x_iinc (v := nI (pp + 1)) (lv' := [(0, .ref h), (1, .int (nI stp)), (2, .int (nI (pp + 1)))]) (pc := 88) F dX1_buildDoubling_88 2 rfl (nx_inc (b := 1) pp (by decide)) (by decide) [1, 2, 0] rfl ?_
                      refine x_goto (tgt := 65) (pc := 91) F dX1_buildDoubling_91 (by decide) ?_
                      refine x_I (congrArg (fun g => IC wM D h q cs s (g, K, hs)) (show putG (dbI (up (dbO G k) 3 0 (dbO G k 3 0 + 1)) stp pp) pp (pp + stp) 0 = dbI (up (dbO G k) 3 0 (dbO G k 3 0 + 1)) stp (pp + 1) from (dbI_t hc_76).symm)) ?_
                      refine x_lv [0, 1, 2] rfl ?_
                      exact ih_65 (pp + 1) (by omega) (by omega)
              refine x_lv [0, 1, 2] rfl ?_
              exact cut_65 ((G 0 0 - 0) + 1) 0 (Nat.zero_le _) (Nat.lt_succ_self _)
        refine x_lv [0, 1] rfl ?_
        exact cut_45 ((3 - 0) + 1) 0 1 (Or.inl ⟨rfl, rfl⟩) (by omega) (Nat.lt_succ_self _)
      · refine x_aload_n (pc := 28) F dX1_buildDoubling_28 0 rfl rfl ?_
        refine gM_graph (v := G 2 0) (pc := 29) F hK hin hm_graph rfl dX1_buildDoubling_29 ?_
        refine x_iconst (v := nI 4) (pc := 32) F dX1_buildDoubling_32 (by decide) ?_
        refine x_icmpN_eq (tgt := 39) (pc := 33) F dX1_buildDoubling_33 (by decide) (by omega) (by decide) (fun hc_33 => ?_) (fun hc_33 => ?_)
        · refine x_aload_n (pc := 39) F dX1_buildDoubling_39 0 rfl rfl ?_
          refine x_callv (w := wM) (ty := tM) (pc := 40) F hK wM_in [] [] (c_X1_clear l G K hs) (cwV 0 F.2.2.2.2 gX1_buildDoubling_X1_clear rfl rfl rfl (by decide +kernel) ⟨Nat.le_of_ble_eq_true rfl, Nat.le_of_ble_eq_true rfl⟩) rfl rfl rfl rfl (Nat.le_of_ble_eq_true rfl) dX1_buildDoubling_40 ?_
          rintro _ rfl
          refine x_iconst (v := nI 1) (pc := 43) F dX1_buildDoubling_43 (by decide) ?_
          refine x_istore_n (lv' := [(0, .ref h), (1, .int (nI 1))]) (pc := 44) F dX1_buildDoubling_44 rfl (by decide) [1, 0] rfl ?_
          refine x_I (congrArg (fun g => IC wM D h q cs s (g, K, hs)) (show dropG G = dbO G 0 from rfl)) ?_
          have cut_45 : ∀ (fu : Nat) (k : Nat) (stp : Nat), ((k = 0 ∧ stp = 1) ∨ (k = 1 ∧ stp = 2) ∨ (k = 2 ∧ stp = 4) ∨ (k = 3 ∧ stp = 8)) → (stp ≤ G 0 0) → (3 - k) < fu → V p l e ({ frames := 1, cells := 0, slots := 0, locals := 23 }) s m args below meth c 3 0 0 Q0 (IC wM D h q cs s (dbO G k, K, hs)) 45 [(0, .ref h), (1, .int (nI stp))] [] := by
            intro fu
            induction fu with
            | zero => intro k stp hkk hks hfu; exact absurd hfu (Nat.not_lt_zero _)
            | succ fu ih_45 =>
              intro k stp hkk hks hfu
              refine x_iload_n (pc := 45) F dX1_buildDoubling_45 1 rfl rfl ?_
              refine x_aload_n (pc := 46) F dX1_buildDoubling_46 0 rfl rfl ?_
              refine gM_persons (v := G 0 0) (pc := 47) F hK hin hm_persons (dbO_o G 0 (by decide) k) dX1_buildDoubling_47 ?_
              refine x_icmpN_ge (tgt := 101) (pc := 50) F dX1_buildDoubling_50 (by decide) (by omega) (by omega) (fun hc_50 => ?_) (fun hc_50 => ?_)
              · refine x_aload_n (pc := 101) F dX1_buildDoubling_101 0 rfl rfl ?_
                refine gM_calls (v := (dbO G k) 4 0) (pc := 102) F hK hin hm_calls rfl dX1_buildDoubling_102 ?_
                exact x_reti (w := wM) (ty := tM) (pc := 105) F hK hr hlk hQ0 dX1_buildDoubling_105 (⟨by rw [sg_dbl, if_pos hc_4, if_neg (by omega), if_pos (by omega), lg_end hc_4 hkk hks (by omega)], by rw [sp_dbl, if_pos hc_4, if_neg (by omega), if_pos (by omega), lg_end hc_4 hkk hks (by omega)]⟩)
              · have h4 : dbO G k 4 0 ≤ 8 * k := Nat.le_trans (dbO_4 G k) (Nat.mul_le_mul_right k b2)
                refine x_aload_n (pc := 53) F dX1_buildDoubling_53 0 rfl rfl ?_
                refine x_dup (pc := 54) F dX1_buildDoubling_54 rfl ?_
                refine gM_rounds (v := (dbO G k) 3 0) (pc := 55) F hK hin hm_rounds rfl dX1_buildDoubling_55 ?_
                refine x_iconst (v := nI 1) (pc := 58) F dX1_buildDoubling_58 (by decide) ?_
                refine x_iadd (z := nI (((dbO G k) 3 0) + 1)) (pc := 59) F dX1_buildDoubling_59 (nI_add ((dbO G k) 3 0) 1) ?_
                refine pM_rounds (pc := 60) F hK hin hm_rounds dX1_buildDoubling_60 ?_
                refine x_iconst (v := nI 0) (pc := 63) F dX1_buildDoubling_63 (by decide) ?_
                refine x_istore_n (lv' := [(0, .ref h), (1, .int (nI stp)), (2, .int (nI 0))]) (pc := 64) F dX1_buildDoubling_64 rfl (by decide) [1, 2, 0] rfl ?_
                refine x_I (congrArg (fun g => IC wM D h q cs s (g, K, hs)) (show up (dbO G k) 3 0 (((dbO G k) 3 0) + 1) = dbI (up (dbO G k) 3 0 (dbO G k 3 0 + 1)) stp 0 from rfl)) ?_
                have cut_65 : ∀ (fu : Nat) (pp : Nat), (pp ≤ G 0 0) → (G 0 0 - pp) < fu → V p l e ({ frames := 1, cells := 0, slots := 0, locals := 23 }) s m args below meth c 3 0 0 Q0 (IC wM D h q cs s (dbI (up (dbO G k) 3 0 (dbO G k 3 0 + 1)) stp pp, K, hs)) 65 [(0, .ref h), (1, .int (nI stp)), (2, .int (nI pp))] [] := by
                  intro fu
                  induction fu with
                  | zero => intro pp hpp hfu; exact absurd hfu (Nat.not_lt_zero _)
                  | succ fu ih_65 =>
                    intro pp hpp hfu
                    refine x_iload_n (pc := 65) F dX1_buildDoubling_65 2 rfl rfl ?_
                    refine x_aload_n (pc := 66) F dX1_buildDoubling_66 0 rfl rfl ?_
                    refine gM_persons (v := G 0 0) (pc := 67) F hK hin hm_persons ((dbI_o _ _ 0 (by decide) pp).trans (dbO_o G 0 (by decide) k)) dX1_buildDoubling_67 ?_
                    refine x_icmpN_ge (tgt := 94) (pc := 70) F dX1_buildDoubling_70 (by decide) (by omega) (by omega) (fun hc_70 => ?_) (fun hc_70 => ?_)
                    · refine x_iload_n (pc := 94) F dX1_buildDoubling_94 1 rfl rfl ?_
                      refine x_iconst (v := nI 2) (pc := 95) F dX1_buildDoubling_95 (by decide) ?_
                      refine x_imul (z := nI (stp * 2)) (pc := 96) F dX1_buildDoubling_96 (pk_mul stp 2) ?_
                      refine x_istore_n (lv' := [(0, .ref h), (1, .int (nI (stp * 2))), (2, .int (nI pp))]) (pc := 97) F dX1_buildDoubling_97 rfl (by decide) [1, 0, 2] rfl ?_
                      refine x_goto (tgt := 45) (pc := 98) F dX1_buildDoubling_98 (by decide) ?_
                      refine x_I (congrArg (fun g => IC wM D h q cs s (g, K, hs)) (show dbI (up (dbO G k) 3 0 (dbO G k 3 0 + 1)) stp pp = dbO G (k + 1) from (by rw [show pp = G 0 0 by omega, dbI_fin hc_4 (by omega) hc_50, lg_pow hkk]; rfl))) ?_
                      refine x_lv [0, 1] rfl ?_
                      exact ih_45 (k + 1) (stp * 2) (by omega) (by omega) (by omega)
                    · have hd4 : dbI (up (dbO G k) 3 0 (dbO G k 3 0 + 1)) stp pp 4 0 ≤ dbO G k 4 0 + pp := dbI_4 (up (dbO G k) 3 0 (dbO G k 3 0 + 1)) stp pp
                      refine x_iload_n (pc := 73) F dX1_buildDoubling_73 2 rfl rfl ?_
                      refine x_iload_n (pc := 74) F dX1_buildDoubling_74 1 rfl rfl ?_
                      refine x_iand (z := nI (pp &&& stp)) (pc := 75) F dX1_buildDoubling_75 (nx_and pp stp) ?_
                      refine x_ifN_ne (tgt := 88) (pc := 76) F dX1_buildDoubling_76 (by decide) (and_pair_lt _ (by omega)) (fun hc_76 => ?_) (fun hc_76 => ?_)
                      · refine x_iinc (v := nI (pp + 1)) (lv' := [(0, .ref h), (1, .int (nI stp)), (2, .int (nI (pp + 1)))]) (pc := 88) F dX1_buildDoubling_88 2 rfl (nx_inc (b := 1) pp (by decide)) (by decide) [1, 2, 0] rfl ?_
                        refine x_goto (tgt := 65) (pc := 91) F dX1_buildDoubling_91 (by decide) ?_
                        refine x_I (congrArg (fun g => IC wM D h q cs s (g, K, hs)) (show dbI (up (dbO G k) 3 0 (dbO G k 3 0 + 1)) stp pp = dbI (up (dbO G k) 3 0 (dbO G k 3 0 + 1)) stp (pp + 1) from (dbI_f hc_76).symm)) ?_
                        refine x_lv [0, 1, 2] rfl ?_
                        exact ih_65 (pp + 1) (by omega) (by omega)
                      · refine x_aload_n (pc := 79) F dX1_buildDoubling_79 0 rfl rfl ?_
                        refine x_iload_n (pc := 80) F dX1_buildDoubling_80 2 rfl rfl ?_
                        refine x_iload_n (pc := 81) F dX1_buildDoubling_81 2 rfl rfl ?_
                        refine x_iload_n (pc := 82) F dX1_buildDoubling_82 1 rfl rfl ?_
                        refine x_iadd (z := nI (pp + stp)) (pc := 83) F dX1_buildDoubling_83 (nI_add pp stp) ?_
                        refine x_iconst (v := nI 0) (pc := 84) F dX1_buildDoubling_84 (by decide) ?_
                        refine x_callv (w := wM) (ty := tM) (pc := 85) F hK wM_in [.int (nI pp), .int (nI (pp + stp)), .int (nI 0)] [] (c_X1_lay l (dbI (up (dbO G k) 3 0 (dbO G k 3 0 + 1)) stp pp) K hs pp (pp + stp) 0 (by omega) (by have hq_4 : (dbI (up (dbO G k) 3 0 (dbO G k 3 0 + 1)) stp pp) 4 0 = (dbI (up (dbO G k) 3 0 (dbO G k 3 0 + 1)) stp pp) 4 0 := rfl; omega) (by have hq_3 : (dbI (up (dbO G k) 3 0 (dbO G k 3 0 + 1)) stp pp) 3 0 = dbO G k 3 0 + 1 := (dbI_o _ _ 0 (by decide) pp); omega)) (cwV 3 F.2.2.2.2 gX1_buildDoubling_X1_lay rfl rfl rfl (by decide +kernel) ⟨Nat.le_of_ble_eq_true rfl, Nat.le_of_ble_eq_true rfl⟩) rfl rfl rfl rfl (Nat.le_of_ble_eq_true rfl) dX1_buildDoubling_85 ?_
                        rintro _ rfl
                        refine x_iinc (v := nI (pp + 1)) (lv' := [(0, .ref h), (1, .int (nI stp)), (2, .int (nI (pp + 1)))]) (pc := 88) F dX1_buildDoubling_88 2 rfl (nx_inc (b := 1) pp (by decide)) (by decide) [1, 2, 0] rfl ?_
                        refine x_goto (tgt := 65) (pc := 91) F dX1_buildDoubling_91 (by decide) ?_
                        refine x_I (congrArg (fun g => IC wM D h q cs s (g, K, hs)) (show putG (dbI (up (dbO G k) 3 0 (dbO G k 3 0 + 1)) stp pp) pp (pp + stp) 0 = dbI (up (dbO G k) 3 0 (dbO G k 3 0 + 1)) stp (pp + 1) from (dbI_t hc_76).symm)) ?_
                        refine x_lv [0, 1, 2] rfl ?_
                        exact ih_65 (pp + 1) (by omega) (by omega)
                refine x_lv [0, 1, 2] rfl ?_
                exact cut_65 ((G 0 0 - 0) + 1) 0 (Nat.zero_le _) (Nat.lt_succ_self _)
          refine x_lv [0, 1] rfl ?_
          exact cut_45 ((3 - 0) + 1) 0 1 (Or.inl ⟨rfl, rfl⟩) (by omega) (Nat.lt_succ_self _)
        · refine x_bipush (v := -10) (pc := 36) F dX1_buildDoubling_36 (by decide) ?_
          exact x_reti (w := wM) (ty := tM) (pc := 38) F hK hr hlk hQ0 dX1_buildDoubling_38 (⟨by rw [sg_dbl, if_pos hc_4, if_neg (by omega), if_neg (by omega)], by rw [sp_dbl, if_pos hc_4, if_neg (by omega), if_neg (by omega)]⟩)
    · refine x_bipush (v := -11) (pc := 18) F dX1_buildDoubling_18 (by decide) ?_
      exact x_reti (w := wM) (ty := tM) (pc := 20) F hK hr hlk hQ0 dX1_buildDoubling_20 (⟨by rw [sg_dbl, if_pos hc_4, if_pos (by omega)], by rw [sp_dbl, if_pos hc_4, if_pos (by omega)]⟩)
  · refine x_bipush (v := -14) (pc := 7) F dX1_buildDoubling_7 (by decide) ?_
    exact x_reti (w := wM) (ty := tM) (pc := 9) F hK hr hlk hQ0 dX1_buildDoubling_9 (⟨by rw [sg_dbl, if_neg hc_4], by rw [sp_dbl, if_neg hc_4]⟩)
set_option maxHeartbeats 4000000 in
set_option maxRecDepth 100000 in
theorem c_X1_buildFourCore (l : Launch) (G : GS) (K : Nat → Nat) (hs : Int64) (hG : ok G) : MCi wM tM l yX1_buildFourCore wsX1_buildFourCore ({ frames := 2, cells := 0, slots := 0, locals := 46 }) [] (G, K, hs) (fun r u => u = (sg_fc G, K, hs) ∧ r = sp_fc G) := by
  have hG0 := hG
  obtain ⟨b1, b2, b3, b4, b5, b6, b7, b8, b9, b10, b11⟩ := hG0
  refine x_starti (cc := cX1_buildFourCore) (maxL := 2) (ret := (some .int)) (own := RX1) (by decide) rfl rfl (fun _ => Nat.le_of_ble_eq_true rfl) ?_
  intro p e s m args below meth c D h q cs F hK hr hlk Q0 hQ0
  refine x_lv (lv' := [(0, .ref h)]) [0] rfl ?_
  have hin : ∀ w ∈ wsX10, w ∈ wsX1_buildFourCore := by decide +kernel
  have hm_persons : Cond.fieldLink RX1 7 "GossipScheduleModel" "persons" "I" ∈ wsX1_buildFourCore := by decide +kernel
  have hm_mode : Cond.fieldLink RX1 37 "GossipScheduleModel" "mode" "I" ∈ wsX1_buildFourCore := by decide +kernel
  have hm_graph : Cond.fieldLink RX1 40 "GossipScheduleModel" "graph" "I" ∈ wsX1_buildFourCore := by decide +kernel
  have hm_calls : Cond.fieldLink RX1 46 "GossipScheduleModel" "calls" "I" ∈ wsX1_buildFourCore := by decide +kernel
  refine x_aload_n (pc := 0) F dX1_buildFourCore_0 0 rfl rfl ?_
  refine gM_persons (v := G 0 0) (pc := 1) F hK hin hm_persons rfl dX1_buildFourCore_1 ?_
  refine x_iconst (v := nI 4) (pc := 4) F dX1_buildFourCore_4 (by decide) ?_
  refine x_icmpN_ge (tgt := 11) (pc := 5) F dX1_buildFourCore_5 (by decide) (by omega) (by decide) (fun hc_5 => ?_) (fun hc_5 => ?_)
  · refine x_aload_n (pc := 11) F dX1_buildFourCore_11 0 rfl rfl ?_
    refine gM_mode (v := G 1 0) (pc := 12) F hK hin hm_mode rfl dX1_buildFourCore_12 ?_
    refine x_iconst (v := nI 2) (pc := 15) F dX1_buildFourCore_15 (by decide) ?_
    refine x_icmpN_ne (tgt := 22) (pc := 16) F dX1_buildFourCore_16 (by decide) (by omega) (by decide) (fun hc_16 => ?_) (fun hc_16 => ?_)
    · refine x_aload_n (pc := 22) F dX1_buildFourCore_22 0 rfl rfl ?_
      refine gM_graph (v := G 2 0) (pc := 23) F hK hin hm_graph rfl dX1_buildFourCore_23 ?_
      refine x_ifN_eq (tgt := 32) (pc := 26) F dX1_buildFourCore_26 (by decide) (by omega) (fun hc_26 => ?_) (fun hc_26 => ?_)
      · refine x_aload_n (pc := 32) F dX1_buildFourCore_32 0 rfl rfl ?_
        refine x_callv (w := wM) (ty := tM) (pc := 33) F hK wM_in [] [] (c_X1_clear l G K hs) (cwV 0 F.2.2.2.2 gX1_buildFourCore_X1_clear rfl rfl rfl (by decide +kernel) ⟨Nat.le_of_ble_eq_true rfl, Nat.le_of_ble_eq_true rfl⟩) rfl rfl rfl rfl (Nat.le_of_ble_eq_true rfl) dX1_buildFourCore_33 ?_
        rintro _ rfl
        refine x_iconst (v := nI 4) (pc := 36) F dX1_buildFourCore_36 (by decide) ?_
        refine x_istore_n (lv' := [(0, .ref h), (1, .int (nI 4))]) (pc := 37) F dX1_buildFourCore_37 rfl (by decide) [1, 0] rfl ?_
        refine x_I (congrArg (fun g => IC wM D h q cs s (g, K, hs)) (show dropG G = gat (dropG G) 0 4 0 from rfl)) ?_
        have cut_38 : ∀ (fu : Nat) (k : Nat), (4 + k ≤ G 0 0) → (G 0 0 - k) < fu → V p l e ({ frames := 2, cells := 0, slots := 0, locals := 46 }) s m args below meth c 2 0 0 Q0 (IC wM D h q cs s (gat (dropG G) 0 4 k, K, hs)) 38 [(0, .ref h), (1, .int (nI (4 + k)))] [] := by
          intro fu
          induction fu with
          | zero => intro k hk hfu; exact absurd hfu (Nat.not_lt_zero _)
          | succ fu ih_38 =>
            intro k hk hfu
            refine x_iload_n (pc := 38) F dX1_buildFourCore_38 1 rfl rfl ?_
            refine x_aload_n (pc := 39) F dX1_buildFourCore_39 0 rfl rfl ?_
            refine gM_persons (v := G 0 0) (pc := 40) F hK hin hm_persons ((seq_o _ _ _ _ 0 (by decide) k).trans rfl) dX1_buildFourCore_40 ?_
            refine x_icmpN_ge (tgt := 59) (pc := 43) F dX1_buildFourCore_43 (by decide) (by omega) (by omega) (fun hc_43 => ?_) (fun hc_43 => ?_)
            · refine x_aload_n (pc := 59) F dX1_buildFourCore_59 0 rfl rfl ?_
              refine x_iconst (v := nI 0) (pc := 60) F dX1_buildFourCore_60 (by decide) ?_
              refine x_iconst (v := nI 1) (pc := 61) F dX1_buildFourCore_61 (by decide) ?_
              refine x_iconst (v := nI 0) (pc := 62) F dX1_buildFourCore_62 (by decide) ?_
              refine x_callv (w := wM) (ty := tM) (pc := 63) F hK wM_in [.int (nI 0), .int (nI 1), .int (nI 0)] [] (c_X1_round l (gat (dropG G) 0 4 k) K hs 0 1 0 (by omega) (by have hq_4 : (gat (dropG G) 0 4 k) 4 0 = k := ((seq_4 _ _ _ _ k).trans (Nat.zero_add k)); omega)) (cwV 3 F.2.2.2.2 gX1_buildFourCore_X1_round rfl rfl rfl (by decide +kernel) ⟨Nat.le_of_ble_eq_true rfl, Nat.le_of_ble_eq_true rfl⟩) rfl rfl rfl rfl (Nat.le_of_ble_eq_true rfl) dX1_buildFourCore_63 ?_
              rintro _ rfl
              refine x_aload_n (pc := 66) F dX1_buildFourCore_66 0 rfl rfl ?_
              refine x_iconst (v := nI 2) (pc := 67) F dX1_buildFourCore_67 (by decide) ?_
              refine x_iconst (v := nI 3) (pc := 68) F dX1_buildFourCore_68 (by decide) ?_
              refine x_iconst (v := nI 0) (pc := 69) F dX1_buildFourCore_69 (by decide) ?_
              refine x_callv (w := wM) (ty := tM) (pc := 70) F hK wM_in [.int (nI 2), .int (nI 3), .int (nI 0)] [] (c_X1_lay l (putG (up (gat (dropG G) 0 4 k) 3 0 ((gat (dropG G) 0 4 k) 3 0 + 1)) 0 1 0) K hs 2 3 0 (by omega) (by have hq_4 : (putG (up (gat (dropG G) 0 4 k) 3 0 ((gat (dropG G) 0 4 k) 3 0 + 1)) 0 1 0) 4 0 = k + 1 := (congrArg (· + 1) ((seq_4 _ _ _ _ k).trans (Nat.zero_add k))); omega) (by have hq_3 : (putG (up (gat (dropG G) 0 4 k) 3 0 ((gat (dropG G) 0 4 k) 3 0 + 1)) 0 1 0) 3 0 = (gat (dropG G) 0 4 k) 3 0 + 1 := rfl; omega)) (cwV 3 F.2.2.2.2 gX1_buildFourCore_X1_lay rfl rfl rfl (by decide +kernel) ⟨Nat.le_of_ble_eq_true rfl, Nat.le_of_ble_eq_true rfl⟩) rfl rfl rfl rfl (Nat.le_of_ble_eq_true rfl) dX1_buildFourCore_70 ?_
              rintro _ rfl
              refine x_aload_n (pc := 73) F dX1_buildFourCore_73 0 rfl rfl ?_
              refine x_iconst (v := nI 0) (pc := 74) F dX1_buildFourCore_74 (by decide) ?_
              refine x_iconst (v := nI 2) (pc := 75) F dX1_buildFourCore_75 (by decide) ?_
              refine x_iconst (v := nI 0) (pc := 76) F dX1_buildFourCore_76 (by decide) ?_
              refine x_callv (w := wM) (ty := tM) (pc := 77) F hK wM_in [.int (nI 0), .int (nI 2), .int (nI 0)] [] (c_X1_round l (putG (putG (up (gat (dropG G) 0 4 k) 3 0 ((gat (dropG G) 0 4 k) 3 0 + 1)) 0 1 0) 2 3 0) K hs 0 2 0 (by omega) (by have hq_4 : (putG (putG (up (gat (dropG G) 0 4 k) 3 0 ((gat (dropG G) 0 4 k) 3 0 + 1)) 0 1 0) 2 3 0) 4 0 = (k + 1) + 1 := (congrArg (· + 1) (congrArg (· + 1) ((seq_4 _ _ _ _ k).trans (Nat.zero_add k)))); omega)) (cwV 3 F.2.2.2.2 gX1_buildFourCore_X1_round rfl rfl rfl (by decide +kernel) ⟨Nat.le_of_ble_eq_true rfl, Nat.le_of_ble_eq_true rfl⟩) rfl rfl rfl rfl (Nat.le_of_ble_eq_true rfl) dX1_buildFourCore_77 ?_
              rintro _ rfl
              refine x_aload_n (pc := 80) F dX1_buildFourCore_80 0 rfl rfl ?_
              refine x_iconst (v := nI 1) (pc := 81) F dX1_buildFourCore_81 (by decide) ?_
              refine x_iconst (v := nI 3) (pc := 82) F dX1_buildFourCore_82 (by decide) ?_
              refine x_iconst (v := nI 0) (pc := 83) F dX1_buildFourCore_83 (by decide) ?_
              refine x_callv (w := wM) (ty := tM) (pc := 84) F hK wM_in [.int (nI 1), .int (nI 3), .int (nI 0)] [] (c_X1_lay l (putG (up (putG (putG (up (gat (dropG G) 0 4 k) 3 0 ((gat (dropG G) 0 4 k) 3 0 + 1)) 0 1 0) 2 3 0) 3 0 ((putG (putG (up (gat (dropG G) 0 4 k) 3 0 ((gat (dropG G) 0 4 k) 3 0 + 1)) 0 1 0) 2 3 0) 3 0 + 1)) 0 2 0) K hs 1 3 0 (by omega) (by have hq_4 : (putG (up (putG (putG (up (gat (dropG G) 0 4 k) 3 0 ((gat (dropG G) 0 4 k) 3 0 + 1)) 0 1 0) 2 3 0) 3 0 ((putG (putG (up (gat (dropG G) 0 4 k) 3 0 ((gat (dropG G) 0 4 k) 3 0 + 1)) 0 1 0) 2 3 0) 3 0 + 1)) 0 2 0) 4 0 = ((k + 1) + 1) + 1 := (congrArg (· + 1) (congrArg (· + 1) (congrArg (· + 1) ((seq_4 _ _ _ _ k).trans (Nat.zero_add k))))); omega) (by have hq_3 : (putG (up (putG (putG (up (gat (dropG G) 0 4 k) 3 0 ((gat (dropG G) 0 4 k) 3 0 + 1)) 0 1 0) 2 3 0) 3 0 ((putG (putG (up (gat (dropG G) 0 4 k) 3 0 ((gat (dropG G) 0 4 k) 3 0 + 1)) 0 1 0) 2 3 0) 3 0 + 1)) 0 2 0) 3 0 = (putG (putG (up (gat (dropG G) 0 4 k) 3 0 ((gat (dropG G) 0 4 k) 3 0 + 1)) 0 1 0) 2 3 0) 3 0 + 1 := rfl; omega)) (cwV 3 F.2.2.2.2 gX1_buildFourCore_X1_lay rfl rfl rfl (by decide +kernel) ⟨Nat.le_of_ble_eq_true rfl, Nat.le_of_ble_eq_true rfl⟩) rfl rfl rfl rfl (Nat.le_of_ble_eq_true rfl) dX1_buildFourCore_84 ?_
              rintro _ rfl
              refine x_iconst (v := nI 4) (pc := 87) F dX1_buildFourCore_87 (by decide) ?_
              refine x_istore_n (lv' := [(0, .ref h), (1, .int (nI 4))]) (pc := 88) F dX1_buildFourCore_88 rfl (by decide) [1, 0] rfl ?_
              refine x_I (congrArg (fun g => IC wM D h q cs s (g, K, hs)) (show putG (putG (up (putG (putG (up (gat (dropG G) 0 4 k) 3 0 ((gat (dropG G) 0 4 k) 3 0 + 1)) 0 1 0) 2 3 0) 3 0 ((putG (putG (up (gat (dropG G) 0 4 k) 3 0 ((gat (dropG G) 0 4 k) 3 0 + 1)) 0 1 0) 2 3 0) 3 0 + 1)) 0 2 0) 1 3 0 = spr (fcC (fcB (gat (dropG G) 0 4 k))) 0 4 0 from rfl)) ?_
              have cut_89 : ∀ (fu : Nat) (k2 : Nat), (4 + k2 ≤ G 0 0) → (G 0 0 - k2) < fu → V p l e ({ frames := 2, cells := 0, slots := 0, locals := 46 }) s m args below meth c 2 0 0 Q0 (IC wM D h q cs s (spr (fcC (fcB (gat (dropG G) 0 4 k))) 0 4 k2, K, hs)) 89 [(0, .ref h), (1, .int (nI (4 + k2)))] [] := by
                intro fu
                induction fu with
                | zero => intro k2 hk2 hfu; exact absurd hfu (Nat.not_lt_zero _)
                | succ fu ih_89 =>
                  intro k2 hk2 hfu
                  refine x_iload_n (pc := 89) F dX1_buildFourCore_89 1 rfl rfl ?_
                  refine x_aload_n (pc := 90) F dX1_buildFourCore_90 0 rfl rfl ?_
                  refine gM_persons (v := G 0 0) (pc := 91) F hK hin hm_persons ((seq_o _ _ _ _ 0 (by decide) k2).trans ((seq_o _ _ _ _ 0 (by decide) k).trans rfl)) dX1_buildFourCore_91 ?_
                  refine x_icmpN_ge (tgt := 110) (pc := 94) F dX1_buildFourCore_94 (by decide) (by omega) (by omega) (fun hc_94 => ?_) (fun hc_94 => ?_)
                  · refine x_aload_n (pc := 110) F dX1_buildFourCore_110 0 rfl rfl ?_
                    refine gM_calls (v := (spr (fcC (fcB (gat (dropG G) 0 4 k))) 0 4 k2) 4 0) (pc := 111) F hK hin hm_calls rfl dX1_buildFourCore_111 ?_
                    exact x_reti (w := wM) (ty := tM) (pc := 114) F hK hr hlk hQ0 dX1_buildFourCore_114 (⟨by rw [sg_fc, if_pos (by omega), if_neg (by omega), if_pos (by omega), fcF, show G 0 0 - 4 = k by omega, show k2 = k by omega], by rw [sp_fc, if_pos (by omega), if_neg (by omega), if_pos (by omega), fcF, show G 0 0 - 4 = k by omega, show k2 = k by omega]⟩)
                  · refine x_aload_n (pc := 97) F dX1_buildFourCore_97 0 rfl rfl ?_
                    refine x_iconst (v := nI 0) (pc := 98) F dX1_buildFourCore_98 (by decide) ?_
                    refine x_iload_n (pc := 99) F dX1_buildFourCore_99 1 rfl rfl ?_
                    refine x_iconst (v := nI 0) (pc := 100) F dX1_buildFourCore_100 (by decide) ?_
                    refine x_callv (w := wM) (ty := tM) (pc := 101) F hK wM_in [.int (nI 0), .int (nI (4 + k2)), .int (nI 0)] [] (c_X1_round l (spr (fcC (fcB (gat (dropG G) 0 4 k))) 0 4 k2) K hs 0 (4 + k2) 0 (by omega) (by have hq_4 : (spr (fcC (fcB (gat (dropG G) 0 4 k))) 0 4 k2) 4 0 = k + 4 + k2 := ((seq_4 _ _ _ _ k2).trans (congrArg (fun z : Nat => z + k2) (show fcC (fcB (gat (dropG G) 0 4 k)) 4 0 = k + 4 from (congrArg (fun z : Nat => z + 4) (show gat (dropG G) 0 4 k 4 0 = k from (seq_4 _ _ _ _ k).trans (Nat.zero_add k)))))); omega)) (cwV 3 F.2.2.2.2 gX1_buildFourCore_X1_round rfl rfl rfl (by decide +kernel) ⟨Nat.le_of_ble_eq_true rfl, Nat.le_of_ble_eq_true rfl⟩) rfl rfl rfl rfl (Nat.le_of_ble_eq_true rfl) dX1_buildFourCore_101 ?_
                    rintro _ rfl
                    refine x_iinc (v := nI ((4 + k2) + 1)) (lv' := [(0, .ref h), (1, .int (nI ((4 + k2) + 1)))]) (pc := 104) F dX1_buildFourCore_104 1 rfl (nx_inc (b := 1) (4 + k2) (by decide)) (by decide) [1, 0] rfl ?_
                    refine x_goto (tgt := 89) (pc := 107) F dX1_buildFourCore_107 (by decide) ?_
                    refine x_lv [0, 1] rfl ?_
                    exact ih_89 (k2 + 1) (by omega) (by omega)
              refine x_lv [0, 1] rfl ?_
              exact cut_89 ((G 0 0 - 0) + 1) 0 (by omega) (Nat.lt_succ_self _)
            · refine x_aload_n (pc := 46) F dX1_buildFourCore_46 0 rfl rfl ?_
              refine x_iload_n (pc := 47) F dX1_buildFourCore_47 1 rfl rfl ?_
              refine x_iconst (v := nI 0) (pc := 48) F dX1_buildFourCore_48 (by decide) ?_
              refine x_iconst (v := nI 0) (pc := 49) F dX1_buildFourCore_49 (by decide) ?_
              refine x_callv (w := wM) (ty := tM) (pc := 50) F hK wM_in [.int (nI (4 + k)), .int (nI 0), .int (nI 0)] [] (c_X1_round l (gat (dropG G) 0 4 k) K hs (4 + k) 0 0 (by omega) (by have hq_4 : (gat (dropG G) 0 4 k) 4 0 = k := ((seq_4 _ _ _ _ k).trans (Nat.zero_add k)); omega)) (cwV 3 F.2.2.2.2 gX1_buildFourCore_X1_round rfl rfl rfl (by decide +kernel) ⟨Nat.le_of_ble_eq_true rfl, Nat.le_of_ble_eq_true rfl⟩) rfl rfl rfl rfl (Nat.le_of_ble_eq_true rfl) dX1_buildFourCore_50 ?_
              rintro _ rfl
              refine x_iinc (v := nI ((4 + k) + 1)) (lv' := [(0, .ref h), (1, .int (nI ((4 + k) + 1)))]) (pc := 53) F dX1_buildFourCore_53 1 rfl (nx_inc (b := 1) (4 + k) (by decide)) (by decide) [1, 0] rfl ?_
              refine x_goto (tgt := 38) (pc := 56) F dX1_buildFourCore_56 (by decide) ?_
              refine x_lv [0, 1] rfl ?_
              exact ih_38 (k + 1) (by omega) (by omega)
        refine x_lv [0, 1] rfl ?_
        exact cut_38 ((G 0 0 - 0) + 1) 0 (by omega) (Nat.lt_succ_self _)
      · refine x_bipush (v := -10) (pc := 29) F dX1_buildFourCore_29 (by decide) ?_
        exact x_reti (w := wM) (ty := tM) (pc := 31) F hK hr hlk hQ0 dX1_buildFourCore_31 (⟨by rw [sg_fc, if_pos (by omega), if_neg (by omega), if_neg (by omega)], by rw [sp_fc, if_pos (by omega), if_neg (by omega), if_neg (by omega)]⟩)
    · refine x_bipush (v := -11) (pc := 19) F dX1_buildFourCore_19 (by decide) ?_
      exact x_reti (w := wM) (ty := tM) (pc := 21) F hK hr hlk hQ0 dX1_buildFourCore_21 (⟨by rw [sg_fc, if_pos (by omega), if_pos (by omega)], by rw [sp_fc, if_pos (by omega), if_pos (by omega)]⟩)
  · refine x_bipush (v := -14) (pc := 8) F dX1_buildFourCore_8 (by decide) ?_
    exact x_reti (w := wM) (ty := tM) (pc := 10) F hK hr hlk hQ0 dX1_buildFourCore_10 (⟨by rw [sg_fc, if_neg (by omega)], by rw [sp_fc, if_neg (by omega)]⟩)
set_option maxHeartbeats 4000000 in
set_option maxRecDepth 100000 in
theorem c_X1_buildGatherSpread (l : Launch) (G : GS) (K : Nat → Nat) (hs : Int64) (hG : ok G) : MCi wM tM l yX1_buildGatherSpread wsX1_buildGatherSpread ({ frames := 2, cells := 0, slots := 0, locals := 46 }) [] (G, K, hs) (fun r u => u = (sg_gs G, K, hs) ∧ r = sp_gs G) := by
  have hG0 := hG
  obtain ⟨b1, b2, b3, b4, b5, b6, b7, b8, b9, b10, b11⟩ := hG0
  refine x_starti (cc := cX1_buildGatherSpread) (maxL := 4) (ret := (some .int)) (own := RX1) (by decide) rfl rfl (fun _ => Nat.le_of_ble_eq_true rfl) ?_
  intro p e s m args below meth c D h q cs F hK hr hlk Q0 hQ0
  refine x_lv (lv' := [(0, .ref h)]) [0] rfl ?_
  have hin : ∀ w ∈ wsX10, w ∈ wsX1_buildGatherSpread := by decide +kernel
  have hm_persons : Cond.fieldLink RX1 7 "GossipScheduleModel" "persons" "I" ∈ wsX1_buildGatherSpread := by decide +kernel
  have hm_mode : Cond.fieldLink RX1 37 "GossipScheduleModel" "mode" "I" ∈ wsX1_buildGatherSpread := by decide +kernel
  have hm_calls : Cond.fieldLink RX1 46 "GossipScheduleModel" "calls" "I" ∈ wsX1_buildGatherSpread := by decide +kernel
  refine x_iconst (v := nI 1) (pc := 0) F dX1_buildGatherSpread_0 (by decide) ?_
  refine x_istore_n (lv' := [(0, .ref h), (1, .int (nI 1))]) (pc := 1) F dX1_buildGatherSpread_1 rfl (by decide) [1, 0] rfl ?_
  refine x_iconst (v := nI 1) (pc := 2) F dX1_buildGatherSpread_2 (by decide) ?_
  refine x_istore_n (lv' := [(0, .ref h), (1, .int (nI 1)), (2, .int (nI 1))]) (pc := 3) F dX1_buildGatherSpread_3 rfl (by decide) [1, 2, 0] rfl ?_
  have cut_4 : ∀ (fu : Nat) (k0 : Nat) (z : Nat), (k0 + 1 ≤ G 0 0) → (z = bN (allE G k0 = true)) → (z < 2) → (G 0 0 - k0) < fu → V p l e ({ frames := 2, cells := 0, slots := 0, locals := 46 }) s m args below meth c 4 0 0 Q0 (IC wM D h q cs s (G, K, hs)) 4 [(0, .ref h), (1, .int (nI z)), (2, .int (nI (k0 + 1)))] [] := by
    intro fu
    induction fu with
    | zero => intro k0 z hk0 hz hz2 hfu; exact absurd hfu (Nat.not_lt_zero _)
    | succ fu ih_4 =>
      intro k0 z hk0 hz hz2 hfu
      refine x_iload_n (pc := 4) F dX1_buildGatherSpread_4 2 rfl rfl ?_
      refine x_aload_n (pc := 5) F dX1_buildGatherSpread_5 0 rfl rfl ?_
      refine gM_persons (v := G 0 0) (pc := 6) F hK hin hm_persons rfl dX1_buildGatherSpread_6 ?_
      refine x_icmpN_ge (tgt := 37) (pc := 9) F dX1_buildGatherSpread_9 (by decide) (by omega) (by omega) (fun hc_9 => ?_) (fun hc_9 => ?_)
      · refine x_iload_n (pc := 37) F dX1_buildGatherSpread_37 1 rfl rfl ?_
        refine x_ifN_ne (tgt := 44) (pc := 38) F dX1_buildGatherSpread_38 (by decide) (by omega) (fun hc_38 => ?_) (fun hc_38 => ?_)
        · refine x_aload_n (pc := 44) F dX1_buildGatherSpread_44 0 rfl rfl ?_
          refine x_callv (w := wM) (ty := tM) (pc := 45) F hK wM_in [] [] (c_X1_clear l G K hs) (cwV 0 F.2.2.2.2 gX1_buildGatherSpread_X1_clear rfl rfl rfl (by decide +kernel) ⟨Nat.le_of_ble_eq_true rfl, Nat.le_of_ble_eq_true rfl⟩) rfl rfl rfl rfl (Nat.le_of_ble_eq_true rfl) dX1_buildGatherSpread_45 ?_
          rintro _ rfl
          refine x_aload_n (pc := 48) F dX1_buildGatherSpread_48 0 rfl rfl ?_
          refine gM_mode (v := G 1 0) (pc := 49) F hK hin hm_mode rfl dX1_buildGatherSpread_49 ?_
          refine x_iconst (v := nI 2) (pc := 52) F dX1_buildGatherSpread_52 (by decide) ?_
          refine x_icmpN_ne (tgt := 60) (pc := 53) F dX1_buildGatherSpread_53 (by decide) (by omega) (by decide) (fun hc_53 => ?_) (fun hc_53 => ?_)
          · refine x_iconst (v := nI 0) (pc := 60) F dX1_buildGatherSpread_60 (by decide) ?_
            refine x_istore_n (lv' := [(0, .ref h), (1, .int (nI z)), (2, .int (nI 0))]) (pc := 61) F dX1_buildGatherSpread_61 rfl (by decide) [1, 2, 0] rfl ?_
            refine x_iconst (v := nI 1) (pc := 62) F dX1_buildGatherSpread_62 (by decide) ?_
            refine x_istore_n (lv' := [(0, .ref h), (1, .int (nI z)), (2, .int (nI 0)), (3, .int (nI 1))]) (pc := 63) F dX1_buildGatherSpread_63 rfl (by decide) [1, 2, 3, 0] rfl ?_
            refine x_I (congrArg (fun g => IC wM D h q cs s (g, K, hs)) (show dropG G = gat (dropG G) 0 1 0 from rfl)) ?_
            have cut_64 : ∀ (fu : Nat) (k : Nat) (w : Nat), (1 + k ≤ G 0 0) → (w = gsW G) → (G 0 0 - k) < fu → V p l e ({ frames := 2, cells := 0, slots := 0, locals := 46 }) s m args below meth c 4 0 0 Q0 (IC wM D h q cs s (gat (dropG G) w 1 k, K, hs)) 64 [(0, .ref h), (2, .int (nI w)), (3, .int (nI (1 + k)))] [] := by
              intro fu
              induction fu with
              | zero => intro k w hk hw hfu; exact absurd hfu (Nat.not_lt_zero _)
              | succ fu ih_64 =>
                intro k w hk hw hfu
                have hwm : (G 1 0 = 2 ∧ w = 1) ∨ (¬ G 1 0 = 2 ∧ w = 0) := by
                  by_cases q : G 1 0 = 2
                  · exact Or.inl ⟨q, hw.trans (bN_t q)⟩
                  · exact Or.inr ⟨q, hw.trans (bN_f q)⟩
                refine x_iload_n (pc := 64) F dX1_buildGatherSpread_64 2 rfl rfl ?_
                refine x_aload_n (pc := 65) F dX1_buildGatherSpread_65 0 rfl rfl ?_
                refine gM_persons (v := G 0 0) (pc := 66) F hK hin hm_persons ((seq_o _ _ _ _ 0 (by decide) k).trans rfl) dX1_buildGatherSpread_66 ?_
                refine x_icmpN_ge (tgt := 85) (pc := 69) F dX1_buildGatherSpread_69 (by decide) (by omega) (by omega) (fun hc_69 => ?_) (fun hc_69 => ?_)
                · refine x_iconst (v := nI 1) (pc := 85) F dX1_buildGatherSpread_85 (by decide) ?_
                  refine x_istore_n (lv' := [(0, .ref h), (2, .int (nI w)), (3, .int (nI 1))]) (pc := 86) F dX1_buildGatherSpread_86 rfl (by decide) [1, 2, 0] rfl ?_
                  refine x_I (congrArg (fun g => IC wM D h q cs s (g, K, hs)) (show gat (dropG G) w 1 k = spr (gat (dropG G) w 1 k) w 1 0 from rfl)) ?_
                  have cut_87 : ∀ (fu : Nat) (k2 : Nat), (k2 + 1 ≤ G 0 0 ∧ (w = 0 → k2 + 2 ≤ G 0 0)) → (G 0 0 - k2) < fu → V p l e ({ frames := 2, cells := 0, slots := 0, locals := 46 }) s m args below meth c 4 0 0 Q0 (IC wM D h q cs s (spr (gat (dropG G) w 1 k) w 1 k2, K, hs)) 87 [(0, .ref h), (2, .int (nI w)), (3, .int (nI (1 + k2)))] [] := by
                    intro fu
                    induction fu with
                    | zero => intro k2 hk2 hfu; exact absurd hfu (Nat.not_lt_zero _)
                    | succ fu ih_87 =>
                      intro k2 hk2 hfu
                      refine x_iload_n (pc := 87) F dX1_buildGatherSpread_87 2 rfl rfl ?_
                      refine x_iload_n (pc := 88) F dX1_buildGatherSpread_88 1 rfl rfl ?_
                      refine x_ifN_eq (tgt := 99) (pc := 89) F dX1_buildGatherSpread_89 (by decide) (by omega) (fun hc_89 => ?_) (fun hc_89 => ?_)
                      · refine x_aload_n (pc := 99) F dX1_buildGatherSpread_99 0 rfl rfl ?_
                        refine gM_persons (v := G 0 0) (pc := 100) F hK hin hm_persons ((seq_o _ _ _ _ 0 (by decide) k2).trans ((seq_o _ _ _ _ 0 (by decide) k).trans rfl)) dX1_buildGatherSpread_100 ?_
                        refine x_iconst (v := nI 1) (pc := 103) F dX1_buildGatherSpread_103 (by decide) ?_
                        refine x_isub (z := nI (G 0 0 - 1)) (pc := 104) F dX1_buildGatherSpread_104 (pk_sub (by omega)) ?_
                        refine x_icmpN_ge (tgt := 121) (pc := 105) F dX1_buildGatherSpread_105 (by decide) (by omega) (by omega) (fun hc_105 => ?_) (fun hc_105 => ?_)
                        · refine x_aload_n (pc := 121) F dX1_buildGatherSpread_121 0 rfl rfl ?_
                          refine gM_calls (v := (spr (gat (dropG G) w 1 k) w 1 k2) 4 0) (pc := 122) F hK hin hm_calls rfl dX1_buildGatherSpread_122 ?_
                          exact x_reti (w := wM) (ty := tM) (pc := 125) F hK hr hlk hQ0 dX1_buildGatherSpread_125 (⟨by rw [sg_gs, if_pos (Decidable.byContradiction (fun q => by rw [show k0 = G 0 0 - 1 by omega, bN_f q] at hz; omega)), gsF_g (w := w) (n := k2) hw (by unfold gsN; split <;> omega), show G 0 0 - 1 = k by omega], by rw [sp_gs, if_pos (Decidable.byContradiction (fun q => by rw [show k0 = G 0 0 - 1 by omega, bN_f q] at hz; omega)), gsF_g (w := w) (n := k2) hw (by unfold gsN; split <;> omega), show G 0 0 - 1 = k by omega]⟩)
                        · refine x_aload_n (pc := 108) F dX1_buildGatherSpread_108 0 rfl rfl ?_
                          refine x_iconst (v := nI 0) (pc := 109) F dX1_buildGatherSpread_109 (by decide) ?_
                          refine x_iload_n (pc := 110) F dX1_buildGatherSpread_110 2 rfl rfl ?_
                          refine x_iload_n (pc := 111) F dX1_buildGatherSpread_111 1 rfl rfl ?_
                          refine x_callv (w := wM) (ty := tM) (pc := 112) F hK wM_in [.int (nI 0), .int (nI (1 + k2)), .int (nI w)] [] (c_X1_round l (spr (gat (dropG G) w 1 k) w 1 k2) K hs 0 (1 + k2) w (by omega) (by have hq_4 : (spr (gat (dropG G) w 1 k) w 1 k2) 4 0 = k + k2 := ((seq_4 _ _ _ _ k2).trans (congrArg (fun z : Nat => z + k2) ((seq_4 _ _ _ _ k).trans (Nat.zero_add k)))); omega)) (cwV 3 F.2.2.2.2 gX1_buildGatherSpread_X1_round rfl rfl rfl (by decide +kernel) ⟨Nat.le_of_ble_eq_true rfl, Nat.le_of_ble_eq_true rfl⟩) rfl rfl rfl rfl (Nat.le_of_ble_eq_true rfl) dX1_buildGatherSpread_112 ?_
                          rintro _ rfl
                          refine x_iinc (v := nI ((1 + k2) + 1)) (lv' := [(0, .ref h), (2, .int (nI w)), (3, .int (nI ((1 + k2) + 1)))]) (pc := 115) F dX1_buildGatherSpread_115 2 rfl (nx_inc (b := 1) (1 + k2) (by decide)) (by decide) [1, 2, 0] rfl ?_
                          refine x_goto (tgt := 87) (pc := 118) F dX1_buildGatherSpread_118 (by decide) ?_
                          refine x_lv [0, 1, 2] rfl ?_
                          exact ih_87 (k2 + 1) (by omega) (by omega)
                      · refine x_aload_n (pc := 92) F dX1_buildGatherSpread_92 0 rfl rfl ?_
                        refine gM_persons (v := G 0 0) (pc := 93) F hK hin hm_persons ((seq_o _ _ _ _ 0 (by decide) k2).trans ((seq_o _ _ _ _ 0 (by decide) k).trans rfl)) dX1_buildGatherSpread_93 ?_
                        refine x_goto (tgt := 105) (pc := 96) F dX1_buildGatherSpread_96 (by decide) ?_
                        refine x_icmpN_ge (tgt := 121) (pc := 105) F dX1_buildGatherSpread_105 (by decide) (by omega) (by omega) (fun hc_105 => ?_) (fun hc_105 => ?_)
                        · refine x_aload_n (pc := 121) F dX1_buildGatherSpread_121 0 rfl rfl ?_
                          refine gM_calls (v := (spr (gat (dropG G) w 1 k) w 1 k2) 4 0) (pc := 122) F hK hin hm_calls rfl dX1_buildGatherSpread_122 ?_
                          exact x_reti (w := wM) (ty := tM) (pc := 125) F hK hr hlk hQ0 dX1_buildGatherSpread_125 (⟨by rw [sg_gs, if_pos (Decidable.byContradiction (fun q => by rw [show k0 = G 0 0 - 1 by omega, bN_f q] at hz; omega)), gsF_g (w := w) (n := k2) hw (by unfold gsN; split <;> omega), show G 0 0 - 1 = k by omega], by rw [sp_gs, if_pos (Decidable.byContradiction (fun q => by rw [show k0 = G 0 0 - 1 by omega, bN_f q] at hz; omega)), gsF_g (w := w) (n := k2) hw (by unfold gsN; split <;> omega), show G 0 0 - 1 = k by omega]⟩)
                        · refine x_aload_n (pc := 108) F dX1_buildGatherSpread_108 0 rfl rfl ?_
                          refine x_iconst (v := nI 0) (pc := 109) F dX1_buildGatherSpread_109 (by decide) ?_
                          refine x_iload_n (pc := 110) F dX1_buildGatherSpread_110 2 rfl rfl ?_
                          refine x_iload_n (pc := 111) F dX1_buildGatherSpread_111 1 rfl rfl ?_
                          refine x_callv (w := wM) (ty := tM) (pc := 112) F hK wM_in [.int (nI 0), .int (nI (1 + k2)), .int (nI w)] [] (c_X1_round l (spr (gat (dropG G) w 1 k) w 1 k2) K hs 0 (1 + k2) w (by omega) (by have hq_4 : (spr (gat (dropG G) w 1 k) w 1 k2) 4 0 = k + k2 := ((seq_4 _ _ _ _ k2).trans (congrArg (fun z : Nat => z + k2) ((seq_4 _ _ _ _ k).trans (Nat.zero_add k)))); omega)) (cwV 3 F.2.2.2.2 gX1_buildGatherSpread_X1_round rfl rfl rfl (by decide +kernel) ⟨Nat.le_of_ble_eq_true rfl, Nat.le_of_ble_eq_true rfl⟩) rfl rfl rfl rfl (Nat.le_of_ble_eq_true rfl) dX1_buildGatherSpread_112 ?_
                          rintro _ rfl
                          refine x_iinc (v := nI ((1 + k2) + 1)) (lv' := [(0, .ref h), (2, .int (nI w)), (3, .int (nI ((1 + k2) + 1)))]) (pc := 115) F dX1_buildGatherSpread_115 2 rfl (nx_inc (b := 1) (1 + k2) (by decide)) (by decide) [1, 2, 0] rfl ?_
                          refine x_goto (tgt := 87) (pc := 118) F dX1_buildGatherSpread_118 (by decide) ?_
                          refine x_lv [0, 1, 2] rfl ?_
                          exact ih_87 (k2 + 1) (by omega) (by omega)
                  refine x_lv [0, 1, 2] rfl ?_
                  exact cut_87 ((G 0 0 - 0) + 1) 0 (by omega) (Nat.lt_succ_self _)
                · refine x_aload_n (pc := 72) F dX1_buildGatherSpread_72 0 rfl rfl ?_
                  refine x_iload_n (pc := 73) F dX1_buildGatherSpread_73 2 rfl rfl ?_
                  refine x_iconst (v := nI 0) (pc := 74) F dX1_buildGatherSpread_74 (by decide) ?_
                  refine x_iload_n (pc := 75) F dX1_buildGatherSpread_75 1 rfl rfl ?_
                  refine x_callv (w := wM) (ty := tM) (pc := 76) F hK wM_in [.int (nI (1 + k)), .int (nI 0), .int (nI w)] [] (c_X1_round l (gat (dropG G) w 1 k) K hs (1 + k) 0 w (by omega) (by have hq_4 : (gat (dropG G) w 1 k) 4 0 = k := ((seq_4 _ _ _ _ k).trans (Nat.zero_add k)); omega)) (cwV 3 F.2.2.2.2 gX1_buildGatherSpread_X1_round rfl rfl rfl (by decide +kernel) ⟨Nat.le_of_ble_eq_true rfl, Nat.le_of_ble_eq_true rfl⟩) rfl rfl rfl rfl (Nat.le_of_ble_eq_true rfl) dX1_buildGatherSpread_76 ?_
                  rintro _ rfl
                  refine x_iinc (v := nI ((1 + k) + 1)) (lv' := [(0, .ref h), (2, .int (nI w)), (3, .int (nI ((1 + k) + 1)))]) (pc := 79) F dX1_buildGatherSpread_79 2 rfl (nx_inc (b := 1) (1 + k) (by decide)) (by decide) [1, 2, 0] rfl ?_
                  refine x_goto (tgt := 64) (pc := 82) F dX1_buildGatherSpread_82 (by decide) ?_
                  refine x_lv [0, 1, 2] rfl ?_
                  exact ih_64 (k + 1) w (by omega) hw (by omega)
            refine x_lv [0, 2, 3] rfl ?_
            exact cut_64 ((G 0 0 - 0) + 1) 0 0 (by omega) (bN_f hc_53).symm (Nat.lt_succ_self _)
          · refine x_iconst (v := nI 1) (pc := 56) F dX1_buildGatherSpread_56 (by decide) ?_
            refine x_goto (tgt := 61) (pc := 57) F dX1_buildGatherSpread_57 (by decide) ?_
            refine x_istore_n (lv' := [(0, .ref h), (1, .int (nI z)), (2, .int (nI 1))]) (pc := 61) F dX1_buildGatherSpread_61 rfl (by decide) [1, 2, 0] rfl ?_
            refine x_iconst (v := nI 1) (pc := 62) F dX1_buildGatherSpread_62 (by decide) ?_
            refine x_istore_n (lv' := [(0, .ref h), (1, .int (nI z)), (2, .int (nI 1)), (3, .int (nI 1))]) (pc := 63) F dX1_buildGatherSpread_63 rfl (by decide) [1, 2, 3, 0] rfl ?_
            refine x_I (congrArg (fun g => IC wM D h q cs s (g, K, hs)) (show dropG G = gat (dropG G) 1 1 0 from rfl)) ?_
            have cut_64 : ∀ (fu : Nat) (k : Nat) (w : Nat), (1 + k ≤ G 0 0) → (w = gsW G) → (G 0 0 - k) < fu → V p l e ({ frames := 2, cells := 0, slots := 0, locals := 46 }) s m args below meth c 4 0 0 Q0 (IC wM D h q cs s (gat (dropG G) w 1 k, K, hs)) 64 [(0, .ref h), (2, .int (nI w)), (3, .int (nI (1 + k)))] [] := by
              intro fu
              induction fu with
              | zero => intro k w hk hw hfu; exact absurd hfu (Nat.not_lt_zero _)
              | succ fu ih_64 =>
                intro k w hk hw hfu
                have hwm : (G 1 0 = 2 ∧ w = 1) ∨ (¬ G 1 0 = 2 ∧ w = 0) := by
                  by_cases q : G 1 0 = 2
                  · exact Or.inl ⟨q, hw.trans (bN_t q)⟩
                  · exact Or.inr ⟨q, hw.trans (bN_f q)⟩
                refine x_iload_n (pc := 64) F dX1_buildGatherSpread_64 2 rfl rfl ?_
                refine x_aload_n (pc := 65) F dX1_buildGatherSpread_65 0 rfl rfl ?_
                refine gM_persons (v := G 0 0) (pc := 66) F hK hin hm_persons ((seq_o _ _ _ _ 0 (by decide) k).trans rfl) dX1_buildGatherSpread_66 ?_
                refine x_icmpN_ge (tgt := 85) (pc := 69) F dX1_buildGatherSpread_69 (by decide) (by omega) (by omega) (fun hc_69 => ?_) (fun hc_69 => ?_)
                · refine x_iconst (v := nI 1) (pc := 85) F dX1_buildGatherSpread_85 (by decide) ?_
                  refine x_istore_n (lv' := [(0, .ref h), (2, .int (nI w)), (3, .int (nI 1))]) (pc := 86) F dX1_buildGatherSpread_86 rfl (by decide) [1, 2, 0] rfl ?_
                  refine x_I (congrArg (fun g => IC wM D h q cs s (g, K, hs)) (show gat (dropG G) w 1 k = spr (gat (dropG G) w 1 k) w 1 0 from rfl)) ?_
                  have cut_87 : ∀ (fu : Nat) (k2 : Nat), (k2 + 1 ≤ G 0 0 ∧ (w = 0 → k2 + 2 ≤ G 0 0)) → (G 0 0 - k2) < fu → V p l e ({ frames := 2, cells := 0, slots := 0, locals := 46 }) s m args below meth c 4 0 0 Q0 (IC wM D h q cs s (spr (gat (dropG G) w 1 k) w 1 k2, K, hs)) 87 [(0, .ref h), (2, .int (nI w)), (3, .int (nI (1 + k2)))] [] := by
                    intro fu
                    induction fu with
                    | zero => intro k2 hk2 hfu; exact absurd hfu (Nat.not_lt_zero _)
                    | succ fu ih_87 =>
                      intro k2 hk2 hfu
                      refine x_iload_n (pc := 87) F dX1_buildGatherSpread_87 2 rfl rfl ?_
                      refine x_iload_n (pc := 88) F dX1_buildGatherSpread_88 1 rfl rfl ?_
                      refine x_ifN_eq (tgt := 99) (pc := 89) F dX1_buildGatherSpread_89 (by decide) (by omega) (fun hc_89 => ?_) (fun hc_89 => ?_)
                      · refine x_aload_n (pc := 99) F dX1_buildGatherSpread_99 0 rfl rfl ?_
                        refine gM_persons (v := G 0 0) (pc := 100) F hK hin hm_persons ((seq_o _ _ _ _ 0 (by decide) k2).trans ((seq_o _ _ _ _ 0 (by decide) k).trans rfl)) dX1_buildGatherSpread_100 ?_
                        refine x_iconst (v := nI 1) (pc := 103) F dX1_buildGatherSpread_103 (by decide) ?_
                        refine x_isub (z := nI (G 0 0 - 1)) (pc := 104) F dX1_buildGatherSpread_104 (pk_sub (by omega)) ?_
                        refine x_icmpN_ge (tgt := 121) (pc := 105) F dX1_buildGatherSpread_105 (by decide) (by omega) (by omega) (fun hc_105 => ?_) (fun hc_105 => ?_)
                        · refine x_aload_n (pc := 121) F dX1_buildGatherSpread_121 0 rfl rfl ?_
                          refine gM_calls (v := (spr (gat (dropG G) w 1 k) w 1 k2) 4 0) (pc := 122) F hK hin hm_calls rfl dX1_buildGatherSpread_122 ?_
                          exact x_reti (w := wM) (ty := tM) (pc := 125) F hK hr hlk hQ0 dX1_buildGatherSpread_125 (⟨by rw [sg_gs, if_pos (Decidable.byContradiction (fun q => by rw [show k0 = G 0 0 - 1 by omega, bN_f q] at hz; omega)), gsF_g (w := w) (n := k2) hw (by unfold gsN; split <;> omega), show G 0 0 - 1 = k by omega], by rw [sp_gs, if_pos (Decidable.byContradiction (fun q => by rw [show k0 = G 0 0 - 1 by omega, bN_f q] at hz; omega)), gsF_g (w := w) (n := k2) hw (by unfold gsN; split <;> omega), show G 0 0 - 1 = k by omega]⟩)
                        · refine x_aload_n (pc := 108) F dX1_buildGatherSpread_108 0 rfl rfl ?_
                          refine x_iconst (v := nI 0) (pc := 109) F dX1_buildGatherSpread_109 (by decide) ?_
                          refine x_iload_n (pc := 110) F dX1_buildGatherSpread_110 2 rfl rfl ?_
                          refine x_iload_n (pc := 111) F dX1_buildGatherSpread_111 1 rfl rfl ?_
                          refine x_callv (w := wM) (ty := tM) (pc := 112) F hK wM_in [.int (nI 0), .int (nI (1 + k2)), .int (nI w)] [] (c_X1_round l (spr (gat (dropG G) w 1 k) w 1 k2) K hs 0 (1 + k2) w (by omega) (by have hq_4 : (spr (gat (dropG G) w 1 k) w 1 k2) 4 0 = k + k2 := ((seq_4 _ _ _ _ k2).trans (congrArg (fun z : Nat => z + k2) ((seq_4 _ _ _ _ k).trans (Nat.zero_add k)))); omega)) (cwV 3 F.2.2.2.2 gX1_buildGatherSpread_X1_round rfl rfl rfl (by decide +kernel) ⟨Nat.le_of_ble_eq_true rfl, Nat.le_of_ble_eq_true rfl⟩) rfl rfl rfl rfl (Nat.le_of_ble_eq_true rfl) dX1_buildGatherSpread_112 ?_
                          rintro _ rfl
                          refine x_iinc (v := nI ((1 + k2) + 1)) (lv' := [(0, .ref h), (2, .int (nI w)), (3, .int (nI ((1 + k2) + 1)))]) (pc := 115) F dX1_buildGatherSpread_115 2 rfl (nx_inc (b := 1) (1 + k2) (by decide)) (by decide) [1, 2, 0] rfl ?_
                          refine x_goto (tgt := 87) (pc := 118) F dX1_buildGatherSpread_118 (by decide) ?_
                          refine x_lv [0, 1, 2] rfl ?_
                          exact ih_87 (k2 + 1) (by omega) (by omega)
                      · refine x_aload_n (pc := 92) F dX1_buildGatherSpread_92 0 rfl rfl ?_
                        refine gM_persons (v := G 0 0) (pc := 93) F hK hin hm_persons ((seq_o _ _ _ _ 0 (by decide) k2).trans ((seq_o _ _ _ _ 0 (by decide) k).trans rfl)) dX1_buildGatherSpread_93 ?_
                        refine x_goto (tgt := 105) (pc := 96) F dX1_buildGatherSpread_96 (by decide) ?_
                        refine x_icmpN_ge (tgt := 121) (pc := 105) F dX1_buildGatherSpread_105 (by decide) (by omega) (by omega) (fun hc_105 => ?_) (fun hc_105 => ?_)
                        · refine x_aload_n (pc := 121) F dX1_buildGatherSpread_121 0 rfl rfl ?_
                          refine gM_calls (v := (spr (gat (dropG G) w 1 k) w 1 k2) 4 0) (pc := 122) F hK hin hm_calls rfl dX1_buildGatherSpread_122 ?_
                          exact x_reti (w := wM) (ty := tM) (pc := 125) F hK hr hlk hQ0 dX1_buildGatherSpread_125 (⟨by rw [sg_gs, if_pos (Decidable.byContradiction (fun q => by rw [show k0 = G 0 0 - 1 by omega, bN_f q] at hz; omega)), gsF_g (w := w) (n := k2) hw (by unfold gsN; split <;> omega), show G 0 0 - 1 = k by omega], by rw [sp_gs, if_pos (Decidable.byContradiction (fun q => by rw [show k0 = G 0 0 - 1 by omega, bN_f q] at hz; omega)), gsF_g (w := w) (n := k2) hw (by unfold gsN; split <;> omega), show G 0 0 - 1 = k by omega]⟩)
                        · refine x_aload_n (pc := 108) F dX1_buildGatherSpread_108 0 rfl rfl ?_
                          refine x_iconst (v := nI 0) (pc := 109) F dX1_buildGatherSpread_109 (by decide) ?_
                          refine x_iload_n (pc := 110) F dX1_buildGatherSpread_110 2 rfl rfl ?_
                          refine x_iload_n (pc := 111) F dX1_buildGatherSpread_111 1 rfl rfl ?_
                          refine x_callv (w := wM) (ty := tM) (pc := 112) F hK wM_in [.int (nI 0), .int (nI (1 + k2)), .int (nI w)] [] (c_X1_round l (spr (gat (dropG G) w 1 k) w 1 k2) K hs 0 (1 + k2) w (by omega) (by have hq_4 : (spr (gat (dropG G) w 1 k) w 1 k2) 4 0 = k + k2 := ((seq_4 _ _ _ _ k2).trans (congrArg (fun z : Nat => z + k2) ((seq_4 _ _ _ _ k).trans (Nat.zero_add k)))); omega)) (cwV 3 F.2.2.2.2 gX1_buildGatherSpread_X1_round rfl rfl rfl (by decide +kernel) ⟨Nat.le_of_ble_eq_true rfl, Nat.le_of_ble_eq_true rfl⟩) rfl rfl rfl rfl (Nat.le_of_ble_eq_true rfl) dX1_buildGatherSpread_112 ?_
                          rintro _ rfl
                          refine x_iinc (v := nI ((1 + k2) + 1)) (lv' := [(0, .ref h), (2, .int (nI w)), (3, .int (nI ((1 + k2) + 1)))]) (pc := 115) F dX1_buildGatherSpread_115 2 rfl (nx_inc (b := 1) (1 + k2) (by decide)) (by decide) [1, 2, 0] rfl ?_
                          refine x_goto (tgt := 87) (pc := 118) F dX1_buildGatherSpread_118 (by decide) ?_
                          refine x_lv [0, 1, 2] rfl ?_
                          exact ih_87 (k2 + 1) (by omega) (by omega)
                  refine x_lv [0, 1, 2] rfl ?_
                  exact cut_87 ((G 0 0 - 0) + 1) 0 (by omega) (Nat.lt_succ_self _)
                · refine x_aload_n (pc := 72) F dX1_buildGatherSpread_72 0 rfl rfl ?_
                  refine x_iload_n (pc := 73) F dX1_buildGatherSpread_73 2 rfl rfl ?_
                  refine x_iconst (v := nI 0) (pc := 74) F dX1_buildGatherSpread_74 (by decide) ?_
                  refine x_iload_n (pc := 75) F dX1_buildGatherSpread_75 1 rfl rfl ?_
                  refine x_callv (w := wM) (ty := tM) (pc := 76) F hK wM_in [.int (nI (1 + k)), .int (nI 0), .int (nI w)] [] (c_X1_round l (gat (dropG G) w 1 k) K hs (1 + k) 0 w (by omega) (by have hq_4 : (gat (dropG G) w 1 k) 4 0 = k := ((seq_4 _ _ _ _ k).trans (Nat.zero_add k)); omega)) (cwV 3 F.2.2.2.2 gX1_buildGatherSpread_X1_round rfl rfl rfl (by decide +kernel) ⟨Nat.le_of_ble_eq_true rfl, Nat.le_of_ble_eq_true rfl⟩) rfl rfl rfl rfl (Nat.le_of_ble_eq_true rfl) dX1_buildGatherSpread_76 ?_
                  rintro _ rfl
                  refine x_iinc (v := nI ((1 + k) + 1)) (lv' := [(0, .ref h), (2, .int (nI w)), (3, .int (nI ((1 + k) + 1)))]) (pc := 79) F dX1_buildGatherSpread_79 2 rfl (nx_inc (b := 1) (1 + k) (by decide)) (by decide) [1, 2, 0] rfl ?_
                  refine x_goto (tgt := 64) (pc := 82) F dX1_buildGatherSpread_82 (by decide) ?_
                  refine x_lv [0, 1, 2] rfl ?_
                  exact ih_64 (k + 1) w (by omega) hw (by omega)
            refine x_lv [0, 2, 3] rfl ?_
            exact cut_64 ((G 0 0 - 0) + 1) 0 1 (by omega) (bN_t hc_53).symm (Nat.lt_succ_self _)
        · refine x_bipush (v := -10) (pc := 41) F dX1_buildGatherSpread_41 (by decide) ?_
          exact x_reti (w := wM) (ty := tM) (pc := 43) F hK hr hlk hQ0 dX1_buildGatherSpread_43 (⟨by rw [sg_gs, if_neg (fun q => by rw [show k0 = G 0 0 - 1 by omega, bN_t q] at hz; omega)], by rw [sp_gs, if_neg (fun q => by rw [show k0 = G 0 0 - 1 by omega, bN_t q] at hz; omega)]⟩)
      · refine x_iload_n (pc := 12) F dX1_buildGatherSpread_12 1 rfl rfl ?_
        refine x_ifN_eq (tgt := 29) (pc := 13) F dX1_buildGatherSpread_13 (by decide) (by omega) (fun hc_13 => ?_) (fun hc_13 => ?_)
        · refine x_iconst (v := nI 0) (pc := 29) F dX1_buildGatherSpread_29 (by decide) ?_
          refine x_istore_n (lv' := [(0, .ref h), (1, .int (nI 0)), (2, .int (nI (k0 + 1)))]) (pc := 30) F dX1_buildGatherSpread_30 rfl (by decide) [1, 0, 2] rfl ?_
          refine x_iinc (v := nI ((k0 + 1) + 1)) (lv' := [(0, .ref h), (1, .int (nI 0)), (2, .int (nI ((k0 + 1) + 1)))]) (pc := 31) F dX1_buildGatherSpread_31 2 rfl (nx_inc (b := 1) (k0 + 1) (by decide)) (by decide) [1, 2, 0] rfl ?_
          refine x_goto (tgt := 4) (pc := 34) F dX1_buildGatherSpread_34 (by decide) ?_
          refine x_lv [0, 1, 2] rfl ?_
          exact ih_4 (k0 + 1) 0 (by omega) (allE_f1 hz hc_13) (by decide) (by omega)
        · refine x_aload_n (pc := 16) F dX1_buildGatherSpread_16 0 rfl rfl ?_
          refine x_iconst (v := nI 0) (pc := 17) F dX1_buildGatherSpread_17 (by decide) ?_
          refine x_iload_n (pc := 18) F dX1_buildGatherSpread_18 2 rfl rfl ?_
          refine x_calli (w := wM) (ty := tM) (pc := 19) F hK wM_in [.int (nI 0), .int (nI (k0 + 1))] [] (c_X1_isEdge l G K hs 0 (k0 + 1) (by have hq_0 : G 0 0 = G 0 0 := rfl; omega) (by have hq_0 : G 0 0 = G 0 0 := rfl; omega) (by have hq_0 : G 0 0 = G 0 0 := rfl; omega) (by have hq_2 : G 2 0 = G 2 0 := rfl; omega) (by have hq_0 : G 0 0 = G 0 0 := rfl; omega)) (cwV 2 F.2.2.2.2 gX1_buildGatherSpread_X1_isEdge rfl rfl rfl (by decide +kernel) ⟨Nat.le_of_ble_eq_true rfl, Nat.le_of_ble_eq_true rfl⟩) rfl rfl rfl rfl (Nat.le_of_ble_eq_true rfl) dX1_buildGatherSpread_19 ?_
          rintro _ _ ⟨rfl, rfl⟩
          refine x_ifB_eq (tgt := 29) (pc := 22) F dX1_buildGatherSpread_22 (by decide) (fun hc_22 => ?_) (fun hc_22 => ?_)
          · refine x_iconst (v := nI 0) (pc := 29) F dX1_buildGatherSpread_29 (by decide) ?_
            refine x_istore_n (lv' := [(0, .ref h), (1, .int (nI 0)), (2, .int (nI (k0 + 1)))]) (pc := 30) F dX1_buildGatherSpread_30 rfl (by decide) [1, 0, 2] rfl ?_
            refine x_iinc (v := nI ((k0 + 1) + 1)) (lv' := [(0, .ref h), (1, .int (nI 0)), (2, .int (nI ((k0 + 1) + 1)))]) (pc := 31) F dX1_buildGatherSpread_31 2 rfl (nx_inc (b := 1) (k0 + 1) (by decide)) (by decide) [1, 2, 0] rfl ?_
            refine x_goto (tgt := 4) (pc := 34) F dX1_buildGatherSpread_34 (by decide) ?_
            refine x_lv [0, 1, 2] rfl ?_
            exact ih_4 (k0 + 1) 0 (by omega) (allE_f2 hc_22) (by decide) (by omega)
          · refine x_iconst (v := nI 1) (pc := 25) F dX1_buildGatherSpread_25 (by decide) ?_
            refine x_goto (tgt := 30) (pc := 26) F dX1_buildGatherSpread_26 (by decide) ?_
            refine x_istore_n (lv' := [(0, .ref h), (1, .int (nI 1)), (2, .int (nI (k0 + 1)))]) (pc := 30) F dX1_buildGatherSpread_30 rfl (by decide) [1, 0, 2] rfl ?_
            refine x_iinc (v := nI ((k0 + 1) + 1)) (lv' := [(0, .ref h), (1, .int (nI 1)), (2, .int (nI ((k0 + 1) + 1)))]) (pc := 31) F dX1_buildGatherSpread_31 2 rfl (nx_inc (b := 1) (k0 + 1) (by decide)) (by decide) [1, 2, 0] rfl ?_
            refine x_goto (tgt := 4) (pc := 34) F dX1_buildGatherSpread_34 (by decide) ?_
            refine x_lv [0, 1, 2] rfl ?_
            exact ih_4 (k0 + 1) 1 (by omega) (allE_t hz hc_13 hc_22) (by decide) (by omega)
  refine x_lv [0, 1, 2] rfl ?_
  exact cut_4 ((G 0 0 - 0) + 1) 0 1 (by omega) rfl (by decide) (Nat.lt_succ_self _)
set_option maxHeartbeats 4000000 in
set_option maxRecDepth 100000 in
theorem c_X1_personCount (l : Launch) (G : GS) (K : Nat → Nat) (hs : Int64) : MCi wM tM l yX1_personCount wsX1_personCount ({ frames := 0, cells := 0, slots := 0, locals := 0 }) [] (G, K, hs) (fun r u => u = (G, K, hs) ∧ r = nI (G 0 0)) := by
  refine x_starti (cc := cX1_personCount) (maxL := 1) (ret := (some .int)) (own := RX1) (by decide) rfl rfl (fun _ => Nat.le_of_ble_eq_true rfl) ?_
  intro p e s m args below meth c D h q cs F hK hr hlk Q0 hQ0
  refine x_lv (lv' := [(0, .ref h)]) [0] rfl ?_
  have hin : ∀ w ∈ wsX10, w ∈ wsX1_personCount := by decide +kernel
  have hm_persons : Cond.fieldLink RX1 7 "GossipScheduleModel" "persons" "I" ∈ wsX1_personCount := by decide +kernel
  refine x_aload_n (pc := 0) F dX1_personCount_0 0 rfl rfl ?_
  refine gM_persons (v := G 0 0) (pc := 1) F hK hin hm_persons rfl dX1_personCount_1 ?_
  exact x_reti (w := wM) (ty := tM) (pc := 4) F hK hr hlk hQ0 dX1_personCount_4 (⟨rfl, rfl⟩)
set_option maxHeartbeats 4000000 in
set_option maxRecDepth 100000 in
theorem c_X1_roundCount (l : Launch) (G : GS) (K : Nat → Nat) (hs : Int64) : MCi wM tM l yX1_roundCount wsX1_roundCount ({ frames := 0, cells := 0, slots := 0, locals := 0 }) [] (G, K, hs) (fun r u => u = (G, K, hs) ∧ r = nI (G 3 0)) := by
  refine x_starti (cc := cX1_roundCount) (maxL := 1) (ret := (some .int)) (own := RX1) (by decide) rfl rfl (fun _ => Nat.le_of_ble_eq_true rfl) ?_
  intro p e s m args below meth c D h q cs F hK hr hlk Q0 hQ0
  refine x_lv (lv' := [(0, .ref h)]) [0] rfl ?_
  have hin : ∀ w ∈ wsX10, w ∈ wsX1_roundCount := by decide +kernel
  have hm_rounds : Cond.fieldLink RX1 43 "GossipScheduleModel" "rounds" "I" ∈ wsX1_roundCount := by decide +kernel
  refine x_aload_n (pc := 0) F dX1_roundCount_0 0 rfl rfl ?_
  refine gM_rounds (v := G 3 0) (pc := 1) F hK hin hm_rounds rfl dX1_roundCount_1 ?_
  exact x_reti (w := wM) (ty := tM) (pc := 4) F hK hr hlk hQ0 dX1_roundCount_4 (⟨rfl, rfl⟩)
set_option maxHeartbeats 4000000 in
set_option maxRecDepth 100000 in
theorem c_X1_callCount (l : Launch) (G : GS) (K : Nat → Nat) (hs : Int64) : MCi wM tM l yX1_callCount wsX1_callCount ({ frames := 0, cells := 0, slots := 0, locals := 0 }) [] (G, K, hs) (fun r u => u = (G, K, hs) ∧ r = nI (G 4 0)) := by
  refine x_starti (cc := cX1_callCount) (maxL := 1) (ret := (some .int)) (own := RX1) (by decide) rfl rfl (fun _ => Nat.le_of_ble_eq_true rfl) ?_
  intro p e s m args below meth c D h q cs F hK hr hlk Q0 hQ0
  refine x_lv (lv' := [(0, .ref h)]) [0] rfl ?_
  have hin : ∀ w ∈ wsX10, w ∈ wsX1_callCount := by decide +kernel
  have hm_calls : Cond.fieldLink RX1 46 "GossipScheduleModel" "calls" "I" ∈ wsX1_callCount := by decide +kernel
  refine x_aload_n (pc := 0) F dX1_callCount_0 0 rfl rfl ?_
  refine gM_calls (v := G 4 0) (pc := 1) F hK hin hm_calls rfl dX1_callCount_1 ?_
  exact x_reti (w := wM) (ty := tM) (pc := 4) F hK hr hlk hQ0 dX1_callCount_4 (⟨rfl, rfl⟩)
set_option maxHeartbeats 4000000 in
set_option maxRecDepth 100000 in
theorem c_X1_described (l : Launch) (G : GS) (K : Nat → Nat) (hs : Int64) (j : Nat) (hj0 : j < G 4 0) (hG : ok G) : MCi wM tM l yX1_described wsX1_described ({ frames := 0, cells := 0, slots := 0, locals := 0 }) [.int (nI j)] (G, K, hs) (fun r u => u = (G, K, hs) ∧ r = nI (dsN G j)) := by
  have hG0 := hG
  obtain ⟨b1, b2, b3, b4, b5, b6, b7, b8, b9, b10, b11⟩ := hG0
  have hj := b8 j hj0
  refine x_starti (cc := cX1_described) (maxL := 2) (ret := (some .int)) (own := RX1) (by decide) rfl rfl (fun _ => Nat.le_of_ble_eq_true rfl) ?_
  intro p e s m args below meth c D h q cs F hK hr hlk Q0 hQ0
  refine x_lv (lv' := [(0, .ref h), (1, .int (nI j))]) [0, 1] rfl ?_
  have hin : ∀ w ∈ wsX10, w ∈ wsX1_described := by decide +kernel
  have hm_roundOf : Cond.fieldLink RX1 13 "GossipScheduleModel" "roundOf" "[I" ∈ wsX1_described := by decide +kernel
  have hm_isOneWay : Cond.fieldLink RX1 23 "GossipScheduleModel" "isOneWay" "[Z" ∈ wsX1_described := by decide +kernel
  have hm_callerOf : Cond.fieldLink RX1 17 "GossipScheduleModel" "callerOf" "[I" ∈ wsX1_described := by decide +kernel
  have hm_calleeOf : Cond.fieldLink RX1 20 "GossipScheduleModel" "calleeOf" "[I" ∈ wsX1_described := by decide +kernel
  refine x_sipush (v := nI 1000) (pc := 0) F dX1_described_0 (by decide) ?_
  refine x_aload_n (pc := 3) F dX1_described_3 0 rfl rfl ?_
  refine gM_roundOf (pc := 4) F hK hin hm_roundOf dX1_described_4 ?_
  refine x_iload_n (pc := 7) F dX1_described_7 1 rfl rfl ?_
  refine lM_roundOf (v := G 5 j) (pc := 8) F hK dX1_described_8 (by omega) rfl ?_
  refine x_imul (z := nI (1000 * (G 5 j))) (pc := 9) F dX1_described_9 (pk_mul 1000 (G 5 j)) ?_
  refine x_aload_n (pc := 10) F dX1_described_10 0 rfl rfl ?_
  refine gM_isOneWay (pc := 11) F hK hin hm_isOneWay dX1_described_11 ?_
  refine x_iload_n (pc := 14) F dX1_described_14 1 rfl rfl ?_
  refine lM_isOneWay (v := G 8 j) (pc := 15) F hK dX1_described_15 (by omega) rfl ?_
  refine x_ifN_eq (tgt := 24) (pc := 16) F dX1_described_16 (by decide) (by omega) (fun hc_16 => ?_) (fun hc_16 => ?_)
  · refine x_iconst (v := nI 0) (pc := 24) F dX1_described_24 (by decide) ?_
    refine x_iadd (z := nI ((1000 * (G 5 j)) + 0)) (pc := 25) F dX1_described_25 (nI_add (1000 * (G 5 j)) 0) ?_
    refine x_bipush (v := nI 10) (pc := 26) F dX1_described_26 (by decide) ?_
    refine x_aload_n (pc := 28) F dX1_described_28 0 rfl rfl ?_
    refine gM_callerOf (pc := 29) F hK hin hm_callerOf dX1_described_29 ?_
    refine x_iload_n (pc := 32) F dX1_described_32 1 rfl rfl ?_
    refine lM_callerOf (v := G 6 j) (pc := 33) F hK dX1_described_33 (by omega) rfl ?_
    refine x_imul (z := nI (10 * (G 6 j))) (pc := 34) F dX1_described_34 (pk_mul 10 (G 6 j)) ?_
    refine x_iadd (z := nI (((1000 * (G 5 j)) + 0) + (10 * (G 6 j)))) (pc := 35) F dX1_described_35 (nI_add ((1000 * (G 5 j)) + 0) (10 * (G 6 j))) ?_
    refine x_aload_n (pc := 36) F dX1_described_36 0 rfl rfl ?_
    refine gM_calleeOf (pc := 37) F hK hin hm_calleeOf dX1_described_37 ?_
    refine x_iload_n (pc := 40) F dX1_described_40 1 rfl rfl ?_
    refine lM_calleeOf (v := G 7 j) (pc := 41) F hK dX1_described_41 (by omega) rfl ?_
    refine x_iadd (z := nI ((((1000 * (G 5 j)) + 0) + (10 * (G 6 j))) + G 7 j)) (pc := 42) F dX1_described_42 (nI_add (((1000 * (G 5 j)) + 0) + (10 * (G 6 j))) (G 7 j)) ?_
    exact x_reti (w := wM) (ty := tM) (pc := 43) F hK hr hlk hQ0 dX1_described_43 (⟨rfl, congrArg nI (by unfold dsN; omega)⟩)
  · refine x_bipush (v := nI 100) (pc := 19) F dX1_described_19 (by decide) ?_
    refine x_goto (tgt := 25) (pc := 21) F dX1_described_21 (by decide) ?_
    refine x_iadd (z := nI ((1000 * (G 5 j)) + 100)) (pc := 25) F dX1_described_25 (nI_add (1000 * (G 5 j)) 100) ?_
    refine x_bipush (v := nI 10) (pc := 26) F dX1_described_26 (by decide) ?_
    refine x_aload_n (pc := 28) F dX1_described_28 0 rfl rfl ?_
    refine gM_callerOf (pc := 29) F hK hin hm_callerOf dX1_described_29 ?_
    refine x_iload_n (pc := 32) F dX1_described_32 1 rfl rfl ?_
    refine lM_callerOf (v := G 6 j) (pc := 33) F hK dX1_described_33 (by omega) rfl ?_
    refine x_imul (z := nI (10 * (G 6 j))) (pc := 34) F dX1_described_34 (pk_mul 10 (G 6 j)) ?_
    refine x_iadd (z := nI (((1000 * (G 5 j)) + 100) + (10 * (G 6 j)))) (pc := 35) F dX1_described_35 (nI_add ((1000 * (G 5 j)) + 100) (10 * (G 6 j))) ?_
    refine x_aload_n (pc := 36) F dX1_described_36 0 rfl rfl ?_
    refine gM_calleeOf (pc := 37) F hK hin hm_calleeOf dX1_described_37 ?_
    refine x_iload_n (pc := 40) F dX1_described_40 1 rfl rfl ?_
    refine lM_calleeOf (v := G 7 j) (pc := 41) F hK dX1_described_41 (by omega) rfl ?_
    refine x_iadd (z := nI ((((1000 * (G 5 j)) + 100) + (10 * (G 6 j))) + G 7 j)) (pc := 42) F dX1_described_42 (nI_add (((1000 * (G 5 j)) + 100) + (10 * (G 6 j))) (G 7 j)) ?_
    exact x_reti (w := wM) (ty := tM) (pc := 43) F hK hr hlk hQ0 dX1_described_43 (⟨rfl, congrArg nI (by unfold dsN; omega)⟩)
set_option maxHeartbeats 4000000 in
set_option maxRecDepth 100000 in
theorem c_X1_describeCall (l : Launch) (G : GS) (K : Nat → Nat) (hs : Int64) (x : Int32) (hG : ok G) : MCi wM tM l yX1_describeCall wsX1_describeCall ({ frames := 2, cells := 0, slots := 0, locals := 43 }) [.int (x)] (G, K, hs) (fun r u => u = (G, K, hs) ∧ r = sp_desc G x) := by
  have hG0 := hG
  obtain ⟨b1, b2, b3, b4, b5, b6, b7, b8, b9, b10, b11⟩ := hG0
  refine x_starti (cc := cX1_describeCall) (maxL := 2) (ret := (some .int)) (own := RX1) (by decide) rfl rfl (fun _ => Nat.le_of_ble_eq_true rfl) ?_
  intro p e s m args below meth c D h q cs F hK hr hlk Q0 hQ0
  refine x_lv (lv' := [(0, .ref h), (1, .int (x))]) [0, 1] rfl ?_
  refine x_aload_n (pc := 0) F dX1_describeCall_0 0 rfl rfl ?_
  refine x_iload_n (pc := 1) F dX1_describeCall_1 1 rfl rfl ?_
  refine x_calli (w := wM) (ty := tM) (pc := 2) F hK wM_in [.int (x)] [] (c_X1_isCall l G K hs x ((x).toInt) rfl (by omega)) (cwV 1 F.2.2.2.2 gX1_describeCall_X1_isCall rfl rfl rfl (by decide +kernel) ⟨Nat.le_of_ble_eq_true rfl, Nat.le_of_ble_eq_true rfl⟩) rfl rfl rfl rfl (Nat.le_of_ble_eq_true rfl) dX1_describeCall_2 ?_
  rintro _ _ ⟨rfl, rfl⟩
  refine x_ifB_eq (tgt := 16) (pc := 5) F dX1_describeCall_5 (by decide) (fun hc_5 => ?_) (fun hc_5 => ?_)
  · refine x_bipush (v := -7) (pc := 16) F dX1_describeCall_16 (by decide) ?_
    exact x_reti (w := wM) (ty := tM) (pc := 18) F hK hr hlk hQ0 dX1_describeCall_18 (⟨rfl, by rw [sp_desc, if_neg (by unfold inR; omega)]⟩)
  · obtain ⟨ja, h_ja, rfl⟩ := nI_ofR (x := x) (n := G 4 0) (by omega) (by omega)
    have e_ja : (nI ja).toInt = (ja : Int) := nI_toInt (by omega)
    refine x_aload_n (pc := 8) F dX1_describeCall_8 0 rfl rfl ?_
    refine x_iload_n (pc := 9) F dX1_describeCall_9 1 rfl rfl ?_
    refine x_calli (w := wM) (ty := tM) (pc := 10) F hK wM_in [.int (nI ja)] [] (c_X1_described l G K hs ja (by omega) hG) (cwV 1 F.2.2.2.2 gX1_describeCall_X1_described rfl rfl rfl (by decide +kernel) ⟨Nat.le_of_ble_eq_true rfl, Nat.le_of_ble_eq_true rfl⟩) rfl rfl rfl rfl (Nat.le_of_ble_eq_true rfl) dX1_describeCall_10 ?_
    rintro _ _ ⟨rfl, rfl⟩
    refine x_goto (tgt := 18) (pc := 13) F dX1_describeCall_13 (by decide) ?_
    exact x_reti (w := wM) (ty := tM) (pc := 18) F hK hr hlk hQ0 dX1_describeCall_18 (⟨rfl, (sp_desc_nI (by omega) (by omega)).symm⟩)
set_option maxHeartbeats 4000000 in
set_option maxRecDepth 100000 in
theorem c_X1_hasSquare (l : Launch) (G : GS) (K : Nat → Nat) (hs : Int64) (h8 : G 0 0 ≤ 8) (h4 : G 2 0 ≤ 4) : MCi wM tM l yX1_hasSquare wsX1_hasSquare ({ frames := 0, cells := 0, slots := 0, locals := 0 }) [] (G, K, hs) (fun r u => u = (G, K, hs) ∧ r = nI (bN (sqr G))) := by
  refine x_starti (cc := cX1_hasSquare) (maxL := 1) (ret := (some .boolean)) (own := RX1) (by decide) rfl rfl (fun _ => Nat.le_of_ble_eq_true rfl) ?_
  intro p e s m args below meth c D h q cs F hK hr hlk Q0 hQ0
  refine x_lv (lv' := [(0, .ref h)]) [0] rfl ?_
  have hin : ∀ w ∈ wsX10, w ∈ wsX1_hasSquare := by decide +kernel
  have hm_graph : Cond.fieldLink RX1 40 "GossipScheduleModel" "graph" "I" ∈ wsX1_hasSquare := by decide +kernel
  have hm_persons : Cond.fieldLink RX1 7 "GossipScheduleModel" "persons" "I" ∈ wsX1_hasSquare := by decide +kernel
  refine x_aload_n (pc := 0) F dX1_hasSquare_0 0 rfl rfl ?_
  refine gM_graph (v := G 2 0) (pc := 1) F hK hin hm_graph rfl dX1_hasSquare_1 ?_
  refine x_ifN_eq (tgt := 31) (pc := 4) F dX1_hasSquare_4 (by decide) (by omega) (fun hc_4 => ?_) (fun hc_4 => ?_)
  · refine x_iconst (v := nI 1) (pc := 31) F dX1_hasSquare_31 (by decide) ?_
    refine x_goto (tgt := 36) (pc := 32) F dX1_hasSquare_32 (by decide) ?_
    exact x_retz (w := wM) (ty := tM) (pc := 36) F hK hr hlk hQ0 (nar_z _ (by omega)) dX1_hasSquare_36 (⟨rfl, congrArg nI (bN_t (by omega)).symm⟩)
  · refine x_aload_n (pc := 7) F dX1_hasSquare_7 0 rfl rfl ?_
    refine gM_graph (v := G 2 0) (pc := 8) F hK hin hm_graph rfl dX1_hasSquare_8 ?_
    refine x_iconst (v := nI 1) (pc := 11) F dX1_hasSquare_11 (by decide) ?_
    refine x_icmpN_ne (tgt := 23) (pc := 12) F dX1_hasSquare_12 (by decide) (by omega) (by decide) (fun hc_12 => ?_) (fun hc_12 => ?_)
    · refine x_aload_n (pc := 23) F dX1_hasSquare_23 0 rfl rfl ?_
      refine gM_graph (v := G 2 0) (pc := 24) F hK hin hm_graph rfl dX1_hasSquare_24 ?_
      refine x_iconst (v := nI 4) (pc := 27) F dX1_hasSquare_27 (by decide) ?_
      refine x_icmpN_ne (tgt := 35) (pc := 28) F dX1_hasSquare_28 (by decide) (by omega) (by decide) (fun hc_28 => ?_) (fun hc_28 => ?_)
      · refine x_iconst (v := nI 0) (pc := 35) F dX1_hasSquare_35 (by decide) ?_
        exact x_retz (w := wM) (ty := tM) (pc := 36) F hK hr hlk hQ0 (nar_z _ (by omega)) dX1_hasSquare_36 (⟨rfl, congrArg nI (bN_f (by omega)).symm⟩)
      · refine x_iconst (v := nI 1) (pc := 31) F dX1_hasSquare_31 (by decide) ?_
        refine x_goto (tgt := 36) (pc := 32) F dX1_hasSquare_32 (by decide) ?_
        exact x_retz (w := wM) (ty := tM) (pc := 36) F hK hr hlk hQ0 (nar_z _ (by omega)) dX1_hasSquare_36 (⟨rfl, congrArg nI (bN_t (by omega)).symm⟩)
    · refine x_aload_n (pc := 15) F dX1_hasSquare_15 0 rfl rfl ?_
      refine gM_persons (v := G 0 0) (pc := 16) F hK hin hm_persons rfl dX1_hasSquare_16 ?_
      refine x_iconst (v := nI 4) (pc := 19) F dX1_hasSquare_19 (by decide) ?_
      refine x_icmpN_eq (tgt := 31) (pc := 20) F dX1_hasSquare_20 (by decide) (by omega) (by decide) (fun hc_20 => ?_) (fun hc_20 => ?_)
      · refine x_iconst (v := nI 1) (pc := 31) F dX1_hasSquare_31 (by decide) ?_
        refine x_goto (tgt := 36) (pc := 32) F dX1_hasSquare_32 (by decide) ?_
        exact x_retz (w := wM) (ty := tM) (pc := 36) F hK hr hlk hQ0 (nar_z _ (by omega)) dX1_hasSquare_36 (⟨rfl, congrArg nI (bN_t (by omega)).symm⟩)
      · refine x_aload_n (pc := 23) F dX1_hasSquare_23 0 rfl rfl ?_
        refine gM_graph (v := G 2 0) (pc := 24) F hK hin hm_graph rfl dX1_hasSquare_24 ?_
        refine x_iconst (v := nI 4) (pc := 27) F dX1_hasSquare_27 (by decide) ?_
        refine x_icmpN_ne (tgt := 35) (pc := 28) F dX1_hasSquare_28 (by decide) (by omega) (by decide) (fun hc_28 => ?_) (fun hc_28 => ?_)
        · refine x_iconst (v := nI 0) (pc := 35) F dX1_hasSquare_35 (by decide) ?_
          exact x_retz (w := wM) (ty := tM) (pc := 36) F hK hr hlk hQ0 (nar_z _ (by omega)) dX1_hasSquare_36 (⟨rfl, congrArg nI (bN_f (by omega)).symm⟩)
        · refine x_iconst (v := nI 1) (pc := 31) F dX1_hasSquare_31 (by decide) ?_
          refine x_goto (tgt := 36) (pc := 32) F dX1_hasSquare_32 (by decide) ?_
          exact x_retz (w := wM) (ty := tM) (pc := 36) F hK hr hlk hQ0 (nar_z _ (by omega)) dX1_hasSquare_36 (⟨rfl, congrArg nI (bN_t (by omega)).symm⟩)
set_option maxHeartbeats 4000000 in
set_option maxRecDepth 100000 in
theorem c_X1_leastNow (l : Launch) (G : GS) (K : Nat → Nat) (hs : Int64) (w : Nat) (hw : w < 2) (hG : ok G) : MCi wM tM l yX1_leastNow wsX1_leastNow ({ frames := 1, cells := 0, slots := 0, locals := 20 }) [.int (nI w)] (G, K, hs) (fun r u => u = (G, K, hs) ∧ r = nI (leN G w)) := by
  have hG0 := hG
  obtain ⟨b1, b2, b3, b4, b5, b6, b7, b8, b9, b10, b11⟩ := hG0
  refine x_starti (cc := cX1_leastNow) (maxL := 2) (ret := (some .int)) (own := RX1) (by decide) rfl rfl (fun _ => Nat.le_of_ble_eq_true rfl) ?_
  intro p e s m args below meth c D h q cs F hK hr hlk Q0 hQ0
  refine x_lv (lv' := [(0, .ref h), (1, .int (nI w))]) [0, 1] rfl ?_
  have hin : ∀ w ∈ wsX10, w ∈ wsX1_leastNow := by decide +kernel
  have hm_persons : Cond.fieldLink RX1 7 "GossipScheduleModel" "persons" "I" ∈ wsX1_leastNow := by decide +kernel
  refine x_iload_n (pc := 0) F dX1_leastNow_0 1 rfl rfl ?_
  refine x_ifN_eq (tgt := 13) (pc := 1) F dX1_leastNow_1 (by decide) (by omega) (fun hc_1 => ?_) (fun hc_1 => ?_)
  · refine x_aload_n (pc := 13) F dX1_leastNow_13 0 rfl rfl ?_
    refine gM_persons (v := G 0 0) (pc := 14) F hK hin hm_persons rfl dX1_leastNow_14 ?_
    refine x_iconst (v := nI 4) (pc := 17) F dX1_leastNow_17 (by decide) ?_
    refine x_icmpN_ge (tgt := 32) (pc := 18) F dX1_leastNow_18 (by decide) (by omega) (by decide) (fun hc_18 => ?_) (fun hc_18 => ?_)
    · refine x_aload_n (pc := 32) F dX1_leastNow_32 0 rfl rfl ?_
      refine x_calli (w := wM) (ty := tM) (pc := 33) F hK wM_in [] [] (c_X1_hasSquare l G K hs (by omega) (by omega)) (cwV 0 F.2.2.2.2 gX1_leastNow_X1_hasSquare rfl rfl rfl (by decide +kernel) ⟨Nat.le_of_ble_eq_true rfl, Nat.le_of_ble_eq_true rfl⟩) rfl rfl rfl rfl (Nat.le_of_ble_eq_true rfl) dX1_leastNow_33 ?_
      rintro _ _ ⟨rfl, rfl⟩
      refine x_ifB_eq (tgt := 50) (pc := 36) F dX1_leastNow_36 (by decide) (fun hc_36 => ?_) (fun hc_36 => ?_)
      · refine x_iconst (v := nI 2) (pc := 50) F dX1_leastNow_50 (by decide) ?_
        refine x_aload_n (pc := 51) F dX1_leastNow_51 0 rfl rfl ?_
        refine gM_persons (v := G 0 0) (pc := 52) F hK hin hm_persons rfl dX1_leastNow_52 ?_
        refine x_imul (z := nI (2 * (G 0 0))) (pc := 55) F dX1_leastNow_55 (pk_mul 2 (G 0 0)) ?_
        refine x_iconst (v := nI 3) (pc := 56) F dX1_leastNow_56 (by decide) ?_
        refine x_isub (z := nI ((2 * (G 0 0)) - 3)) (pc := 57) F dX1_leastNow_57 (pk_sub (by omega)) ?_
        exact x_reti (w := wM) (ty := tM) (pc := 58) F hK hr hlk hQ0 dX1_leastNow_58 (⟨rfl, congrArg nI (by unfold leN; (repeat' split) <;> omega)⟩)
      · refine x_iconst (v := nI 2) (pc := 39) F dX1_leastNow_39 (by decide) ?_
        refine x_aload_n (pc := 40) F dX1_leastNow_40 0 rfl rfl ?_
        refine gM_persons (v := G 0 0) (pc := 41) F hK hin hm_persons rfl dX1_leastNow_41 ?_
        refine x_imul (z := nI (2 * (G 0 0))) (pc := 44) F dX1_leastNow_44 (pk_mul 2 (G 0 0)) ?_
        refine x_iconst (v := nI 4) (pc := 45) F dX1_leastNow_45 (by decide) ?_
        refine x_isub (z := nI ((2 * (G 0 0)) - 4)) (pc := 46) F dX1_leastNow_46 (pk_sub (by omega)) ?_
        refine x_goto (tgt := 58) (pc := 47) F dX1_leastNow_47 (by decide) ?_
        exact x_reti (w := wM) (ty := tM) (pc := 58) F hK hr hlk hQ0 dX1_leastNow_58 (⟨rfl, congrArg nI (by unfold leN; (repeat' split) <;> omega)⟩)
    · refine x_iconst (v := nI 2) (pc := 21) F dX1_leastNow_21 (by decide) ?_
      refine x_aload_n (pc := 22) F dX1_leastNow_22 0 rfl rfl ?_
      refine gM_persons (v := G 0 0) (pc := 23) F hK hin hm_persons rfl dX1_leastNow_23 ?_
      refine x_imul (z := nI (2 * (G 0 0))) (pc := 26) F dX1_leastNow_26 (pk_mul 2 (G 0 0)) ?_
      refine x_iconst (v := nI 3) (pc := 27) F dX1_leastNow_27 (by decide) ?_
      refine x_isub (z := nI ((2 * (G 0 0)) - 3)) (pc := 28) F dX1_leastNow_28 (pk_sub (by omega)) ?_
      refine x_goto (tgt := 58) (pc := 29) F dX1_leastNow_29 (by decide) ?_
      exact x_reti (w := wM) (ty := tM) (pc := 58) F hK hr hlk hQ0 dX1_leastNow_58 (⟨rfl, congrArg nI (by unfold leN; (repeat' split) <;> omega)⟩)
  · refine x_iconst (v := nI 2) (pc := 4) F dX1_leastNow_4 (by decide) ?_
    refine x_aload_n (pc := 5) F dX1_leastNow_5 0 rfl rfl ?_
    refine gM_persons (v := G 0 0) (pc := 6) F hK hin hm_persons rfl dX1_leastNow_6 ?_
    refine x_imul (z := nI (2 * (G 0 0))) (pc := 9) F dX1_leastNow_9 (pk_mul 2 (G 0 0)) ?_
    refine x_iconst (v := nI 2) (pc := 10) F dX1_leastNow_10 (by decide) ?_
    refine x_isub (z := nI ((2 * (G 0 0)) - 2)) (pc := 11) F dX1_leastNow_11 (pk_sub (by omega)) ?_
    exact x_reti (w := wM) (ty := tM) (pc := 12) F hK hr hlk hQ0 dX1_leastNow_12 (⟨rfl, congrArg nI (by unfold leN; (repeat' split) <;> omega)⟩)
set_option maxHeartbeats 4000000 in
set_option maxRecDepth 100000 in
theorem c_X1_leastCalls (l : Launch) (G : GS) (K : Nat → Nat) (hs : Int64) (w : Nat) (hw : w < 2) (hG : ok G) : MCi wM tM l yX1_leastCalls wsX1_leastCalls ({ frames := 2, cells := 0, slots := 0, locals := 41 }) [.int (nI w)] (G, K, hs) (fun r u => u = (G, K, hs) ∧ r = nI (leN G w)) := by
  refine x_starti (cc := cX1_leastCalls) (maxL := 2) (ret := (some .int)) (own := RX1) (by decide) rfl rfl (fun _ => Nat.le_of_ble_eq_true rfl) ?_
  intro p e s m args below meth c D h q cs F hK hr hlk Q0 hQ0
  refine x_lv (lv' := [(0, .ref h), (1, .int (nI w))]) [0, 1] rfl ?_
  refine x_aload_n (pc := 0) F dX1_leastCalls_0 0 rfl rfl ?_
  refine x_iload_n (pc := 1) F dX1_leastCalls_1 1 rfl rfl ?_
  refine x_calli (w := wM) (ty := tM) (pc := 2) F hK wM_in [.int (nI w)] [] (c_X1_leastNow l G K hs w (by omega) hG) (cwV 1 F.2.2.2.2 gX1_leastCalls_X1_leastNow rfl rfl rfl (by decide +kernel) ⟨Nat.le_of_ble_eq_true rfl, Nat.le_of_ble_eq_true rfl⟩) rfl rfl rfl rfl (Nat.le_of_ble_eq_true rfl) dX1_leastCalls_2 ?_
  rintro _ _ ⟨rfl, rfl⟩
  exact x_reti (w := wM) (ty := tM) (pc := 5) F hK hr hlk hQ0 dX1_leastCalls_5 (⟨rfl, rfl⟩)
