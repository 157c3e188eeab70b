set_option maxHeartbeats 4000000 in
set_option maxRecDepth 100000 in
theorem c_X0_putCallsOverStep (l : Launch) (G : GS) (L : Nat → Nat) (stp : Nat) (hs : stp ≤ 8) (h8 : G 0 0 ≤ 8) (hc : G 4 0 + 8 ≤ 28) (hr1 : 1 ≤ G 3 0) : MCv wX tX l yX0_putCallsOverStep wsX0_putCallsOverStep ({ frames := 1, cells := 0, slots := 0, locals := 23 }) [.int (nI stp)] (G, L) (fun u => u = (dbI G stp (G 0 0 - stp), L)) := by
  refine x_startv (cc := cX0_putCallsOverStep) (maxL := 3) (ret := none) (own := RX0) (by decide) rfl rfl (fun _ => Nat.le_of_ble_eq_true rfl) ?_
  intro p e s m args below meth c D h q cs F hK hr hlk Q0 hQ0
  refine x_lv (lv' := [(0, .ref h), (1, .int (nI stp))]) [0, 1] rfl ?_
  have hin : ∀ w ∈ wsX00, w ∈ wsX0_putCallsOverStep := by decide +kernel
  have hm_personTotal : Cond.fieldLink RX0 9 "GossipSchedule" "personTotal" "I" ∈ wsX0_putCallsOverStep := by decide +kernel
  refine x_iconst (v := nI 0) (pc := 0) F dX0_putCallsOverStep_0 (by decide) ?_
  refine x_istore_n (lv' := [(0, .ref h), (1, .int (nI stp)), (2, .int (nI 0))]) (pc := 1) F dX0_putCallsOverStep_1 rfl (by decide) [1, 2, 0] rfl ?_
  refine x_I (congrArg (fun g => IC wX D h q cs s (g, L)) (show G = dbI G stp 0 from rfl)) ?_
  have cut_2 : ∀ (fu : Nat) (pp : Nat), (pp ≤ G 0 0 - stp) → (G 0 0 - pp) < fu → V p l e ({ frames := 1, cells := 0, slots := 0, locals := 23 }) s m args below meth c 3 0 0 Q0 (IC wX D h q cs s (dbI G stp pp, L)) 2 [(0, .ref h), (1, .int (nI stp)), (2, .int (nI pp))] [] := by
    intro fu
    induction fu with
    | zero => intro pp hp hfu; exact absurd hfu (Nat.not_lt_zero _)
    | succ fu ih_2 =>
      intro pp hp hfu
      refine x_iload_n (pc := 2) F dX0_putCallsOverStep_2 2 rfl rfl ?_
      refine x_iload_n (pc := 3) F dX0_putCallsOverStep_3 1 rfl rfl ?_
      refine x_iadd (z := nI (pp + stp)) (pc := 4) F dX0_putCallsOverStep_4 (nI_add pp stp) ?_
      refine x_aload_n (pc := 5) F dX0_putCallsOverStep_5 0 rfl rfl ?_
      refine gX_personTotal (v := G 0 0) (pc := 6) F hK hin hm_personTotal (dbI_o G stp 0 (by decide) pp) dX0_putCallsOverStep_6 ?_
      refine x_icmpN_ge (tgt := 33) (pc := 9) F dX0_putCallsOverStep_9 (by decide) (by omega) (by omega) (fun hc_9 => ?_) (fun hc_9 => ?_)
      · exact x_retv (w := wX) (ty := tX) (pc := 33) F hK hr hlk hQ0 dX0_putCallsOverStep_33 (by rw [show G 0 0 - stp = pp by omega])
      · have hd4 := dbI_4 G stp pp
        refine x_iload_n (pc := 12) F dX0_putCallsOverStep_12 2 rfl rfl ?_
        refine x_iload_n (pc := 13) F dX0_putCallsOverStep_13 1 rfl rfl ?_
        refine x_iand (z := nI (pp &&& stp)) (pc := 14) F dX0_putCallsOverStep_14 (nx_and pp stp) ?_
        refine x_ifN_ne (tgt := 27) (pc := 15) F dX0_putCallsOverStep_15 (by decide) (and_pair_lt _ (by omega)) (fun hc_15 => ?_) (fun hc_15 => ?_)
        · refine x_iinc (v := nI (pp + 1)) (lv' := [(0, .ref h), (1, .int (nI stp)), (2, .int (nI (pp + 1)))]) (pc := 27) F dX0_putCallsOverStep_27 2 rfl (nx_inc (b := 1) pp (by decide)) (by decide) [1, 2, 0] rfl ?_
          refine x_goto (tgt := 2) (pc := 30) F dX0_putCallsOverStep_30 (by decide) ?_
          refine x_I (congrArg (fun g => IC wX D h q cs s (g, L)) (show dbI G stp pp = dbI G stp (pp + 1) from (dbI_f hc_15).symm)) ?_
          refine x_lv [0, 1, 2] rfl ?_
          exact ih_2 (pp + 1) (by omega) (by omega)
        · refine x_aload_n (pc := 18) F dX0_putCallsOverStep_18 0 rfl rfl ?_
          refine x_iload_n (pc := 19) F dX0_putCallsOverStep_19 2 rfl rfl ?_
          refine x_iload_n (pc := 20) F dX0_putCallsOverStep_20 2 rfl rfl ?_
          refine x_iload_n (pc := 21) F dX0_putCallsOverStep_21 1 rfl rfl ?_
          refine x_iadd (z := nI (pp + stp)) (pc := 22) F dX0_putCallsOverStep_22 (nI_add pp stp) ?_
          refine x_iconst (v := nI 0) (pc := 23) F dX0_putCallsOverStep_23 (by decide) ?_
          refine x_callv (w := wX) (ty := tX) (pc := 24) F hK wX_in [.int (nI pp), .int (nI (pp + stp)), .int (nI 0)] [] (c_X0_putCall l (dbI G stp pp) L pp (pp + stp) 0 (by omega) (by have hq_4 : (dbI G stp pp) 4 0 = (dbI G stp pp) 4 0 := rfl; omega) (by have hq_3 : (dbI G stp pp) 3 0 = G 3 0 := (dbI_o G stp 0 (by decide) pp); omega)) (cwV 3 F.2.2.2.2 gX0_putCallsOverStep_X0_putCall rfl rfl rfl (by decide +kernel) ⟨Nat.le_of_ble_eq_true rfl, Nat.le_of_ble_eq_true rfl⟩) rfl rfl rfl rfl (Nat.le_of_ble_eq_true rfl) dX0_putCallsOverStep_24 ?_
          rintro _ rfl
          refine x_iinc (v := nI (pp + 1)) (lv' := [(0, .ref h), (1, .int (nI stp)), (2, .int (nI (pp + 1)))]) (pc := 27) F dX0_putCallsOverStep_27 2 rfl (nx_inc (b := 1) pp (by decide)) (by decide) [1, 2, 0] rfl ?_
          refine x_goto (tgt := 2) (pc := 30) F dX0_putCallsOverStep_30 (by decide) ?_
          refine x_I (congrArg (fun g => IC wX D h q cs s (g, L)) (show putG (dbI G stp pp) pp (pp + stp) 0 = dbI G stp (pp + 1) from (dbI_t hc_15).symm)) ?_
          refine x_lv [0, 1, 2] rfl ?_
          exact ih_2 (pp + 1) (by omega) (by omega)
  refine x_lv [0, 1, 2] rfl ?_
  exact cut_2 ((G 0 0 - 0) + 1) 0 (Nat.zero_le _) (Nat.lt_succ_self _)
set_option maxHeartbeats 4000000 in
set_option maxRecDepth 100000 in
theorem c_X0_buildDoubling (l : Launch) (G : GS) (L : Nat → Nat) (hG : ok G) : MCi wX tX l yX0_buildDoubling wsX0_buildDoubling ({ frames := 2, cells := 0, slots := 0, locals := 45 }) [] (G, L) (fun r u => u = (sg_dbl G, L) ∧ r = sp_dbl G) := by
  have hG0 := hG
  obtain ⟨b1, b2, b3, b4, b5, b6, b7, b8, b9, b10, b11⟩ := hG0
  refine x_starti (cc := cX0_buildDoubling) (maxL := 2) (ret := (some .int)) (own := RX0) (by decide) rfl rfl (fun _ => Nat.le_of_ble_eq_true rfl) ?_
  intro p e s m args below meth c D h q cs F hK hr hlk Q0 hQ0
  refine x_lv (lv' := [(0, .ref h)]) [0] rfl ?_
  have hin : ∀ w ∈ wsX00, w ∈ wsX0_buildDoubling := by decide +kernel
  have hm_scheduleMode : Cond.fieldLink RX0 13 "GossipSchedule" "scheduleMode" "I" ∈ wsX0_buildDoubling := by decide +kernel
  have hm_graphKind : Cond.fieldLink RX0 16 "GossipSchedule" "graphKind" "I" ∈ wsX0_buildDoubling := by decide +kernel
  have hm_personTotal : Cond.fieldLink RX0 9 "GossipSchedule" "personTotal" "I" ∈ wsX0_buildDoubling := by decide +kernel
  have hm_roundTotal : Cond.fieldLink RX0 55 "GossipSchedule" "roundTotal" "I" ∈ wsX0_buildDoubling := by decide +kernel
  have hm_callTotal : Cond.fieldLink RX0 70 "GossipSchedule" "callTotal" "I" ∈ wsX0_buildDoubling := by decide +kernel
  refine x_aload_n (pc := 0) F dX0_buildDoubling_0 0 rfl rfl ?_
  refine x_calli (w := wX) (ty := tX) (pc := 1) F hK wX_in [] [] (c_X0_personsFillCube l G L (by omega) (by omega)) (cwV 0 F.2.2.2.2 gX0_buildDoubling_X0_personsFillCube rfl rfl rfl (by decide +kernel) ⟨Nat.le_of_ble_eq_true rfl, Nat.le_of_ble_eq_true rfl⟩) rfl rfl rfl rfl (Nat.le_of_ble_eq_true rfl) dX0_buildDoubling_1 ?_
  rintro _ _ ⟨rfl, rfl⟩
  refine x_ifB_ne (tgt := 10) (pc := 4) F dX0_buildDoubling_4 (by decide) (fun hc_4 => ?_) (fun hc_4 => ?_)
  · refine x_aload_n (pc := 10) F dX0_buildDoubling_10 0 rfl rfl ?_
    refine gX_scheduleMode (v := G 1 0) (pc := 11) F hK hin hm_scheduleMode rfl dX0_buildDoubling_11 ?_
    refine x_iconst (v := nI 2) (pc := 14) F dX0_buildDoubling_14 (by decide) ?_
    refine x_icmpN_ne (tgt := 21) (pc := 15) F dX0_buildDoubling_15 (by decide) (by omega) (by decide) (fun hc_15 => ?_) (fun hc_15 => ?_)
    · refine x_aload_n (pc := 21) F dX0_buildDoubling_21 0 rfl rfl ?_
      refine gX_graphKind (v := G 2 0) (pc := 22) F hK hin hm_graphKind rfl dX0_buildDoubling_22 ?_
      refine x_ifN_eq (tgt := 39) (pc := 25) F dX0_buildDoubling_25 (by decide) (by omega) (fun hc_25 => ?_) (fun hc_25 => ?_)
      · refine x_aload_n (pc := 39) F dX0_buildDoubling_39 0 rfl rfl ?_
        refine x_callv (w := wX) (ty := tX) (pc := 40) F hK wX_in [] [] (c_X0_dropRounds l G L) (cwV 0 F.2.2.2.2 gX0_buildDoubling_X0_dropRounds rfl rfl rfl (by decide +kernel) ⟨Nat.le_of_ble_eq_true rfl, Nat.le_of_ble_eq_true rfl⟩) rfl rfl rfl rfl (Nat.le_of_ble_eq_true rfl) dX0_buildDoubling_40 ?_
        rintro _ rfl
        refine x_iconst (v := nI 0) (pc := 43) F dX0_buildDoubling_43 (by decide) ?_
        refine x_istore_n (lv' := [(0, .ref h), (1, .int (nI 0))]) (pc := 44) F dX0_buildDoubling_44 rfl (by decide) [1, 0] rfl ?_
        refine x_I (congrArg (fun g => IC wX D h q cs s (g, L)) (show dropG G = dbO G 0 from rfl)) ?_
        have cut_45 : ∀ (fu : Nat) (k : Nat) (stp : Nat), ((k = 0 ∧ stp = 1) ∨ (k = 1 ∧ stp = 2) ∨ (k = 2 ∧ stp = 4) ∨ (k = 3 ∧ stp = 8)) → (stp ≤ G 0 0) → (3 - k) < fu → V p l e ({ frames := 2, cells := 0, slots := 0, locals := 45 }) s m args below meth c 2 0 0 Q0 (IC wX D h q cs s (dbO G k, L)) 45 [(0, .ref h), (1, .int (nI k))] [] := by
          intro fu
          induction fu with
          | zero => intro k stp hkk hks hfu; exact absurd hfu (Nat.not_lt_zero _)
          | succ fu ih_45 =>
            intro k stp hkk hks hfu
            refine x_iload_n (pc := 45) F dX0_buildDoubling_45 1 rfl rfl ?_
            refine x_iconst (v := nI 3) (pc := 46) F dX0_buildDoubling_46 (by decide) ?_
            refine x_icmpN_ge (tgt := 83) (pc := 47) F dX0_buildDoubling_47 (by decide) (by omega) (by decide) (fun hc_47 => ?_) (fun hc_47 => ?_)
            · refine x_aload_n (pc := 83) F dX0_buildDoubling_83 0 rfl rfl ?_
              refine gX_callTotal (v := (dbO G k) 4 0) (pc := 84) F hK hin hm_callTotal rfl dX0_buildDoubling_84 ?_
              exact x_reti (w := wX) (ty := tX) (pc := 87) F hK hr hlk hQ0 dX0_buildDoubling_87 (⟨by rw [sg_dbl, if_pos hc_4, if_neg (by omega), if_pos (by omega), lg_end hc_4 hkk hks (by omega)], by rw [sp_dbl, if_pos hc_4, if_neg (by omega), if_pos (by omega), lg_end hc_4 hkk hks (by omega)]⟩)
            · refine x_iconst (v := nI 1) (pc := 50) F dX0_buildDoubling_50 (by decide) ?_
              refine x_iload_n (pc := 51) F dX0_buildDoubling_51 1 rfl rfl ?_
              refine x_ishl (pc := 52) F dX0_buildDoubling_52 (lg_shl hkk) ?_
              refine x_aload_n (pc := 53) F dX0_buildDoubling_53 0 rfl rfl ?_
              refine gX_personTotal (v := G 0 0) (pc := 54) F hK hin hm_personTotal (dbO_o G 0 (by decide) k) dX0_buildDoubling_54 ?_
              refine x_icmpN_ge (tgt := 83) (pc := 57) F dX0_buildDoubling_57 (by decide) (by omega) (by omega) (fun hc_57 => ?_) (fun hc_57 => ?_)
              · refine x_aload_n (pc := 83) F dX0_buildDoubling_83 0 rfl rfl ?_
                refine gX_callTotal (v := (dbO G k) 4 0) (pc := 84) F hK hin hm_callTotal rfl dX0_buildDoubling_84 ?_
                exact x_reti (w := wX) (ty := tX) (pc := 87) F hK hr hlk hQ0 dX0_buildDoubling_87 (⟨by rw [sg_dbl, if_pos hc_4, if_neg (by omega), if_pos (by omega), lg_end hc_4 hkk hks (by omega)], by rw [sp_dbl, if_pos hc_4, if_neg (by omega), if_pos (by omega), lg_end hc_4 hkk hks (by omega)]⟩)
              · have h4 : dbO G k 4 0 ≤ 8 * k := Nat.le_trans (dbO_4 G k) (Nat.mul_le_mul_right k b2)
                refine x_aload_n (pc := 60) F dX0_buildDoubling_60 0 rfl rfl ?_
                refine x_dup (pc := 61) F dX0_buildDoubling_61 rfl ?_
                refine gX_roundTotal (v := (dbO G k) 3 0) (pc := 62) F hK hin hm_roundTotal rfl dX0_buildDoubling_62 ?_
                refine x_iconst (v := nI 1) (pc := 65) F dX0_buildDoubling_65 (by decide) ?_
                refine x_iadd (z := nI (((dbO G k) 3 0) + 1)) (pc := 66) F dX0_buildDoubling_66 (nI_add ((dbO G k) 3 0) 1) ?_
                refine pX_roundTotal (pc := 67) F hK hin hm_roundTotal dX0_buildDoubling_67 ?_
                refine x_aload_n (pc := 70) F dX0_buildDoubling_70 0 rfl rfl ?_
                refine x_iconst (v := nI 1) (pc := 71) F dX0_buildDoubling_71 (by decide) ?_
                refine x_iload_n (pc := 72) F dX0_buildDoubling_72 1 rfl rfl ?_
                refine x_ishl (pc := 73) F dX0_buildDoubling_73 (lg_shl hkk) ?_
                refine x_callv (w := wX) (ty := tX) (pc := 74) F hK wX_in [.int (nI stp)] [] (c_X0_putCallsOverStep l (up (dbO G k) 3 0 (((dbO G k) 3 0) + 1)) L stp (by omega) (by have hq_0 : (up (dbO G k) 3 0 (((dbO G k) 3 0) + 1)) 0 0 = G 0 0 := (dbO_o G 0 (by decide) k); have hq_4 : (up (dbO G k) 3 0 (((dbO G k) 3 0) + 1)) 4 0 = (dbO G k) 4 0 := rfl; omega) (by have hq_0 : (up (dbO G k) 3 0 (((dbO G k) 3 0) + 1)) 0 0 = G 0 0 := (dbO_o G 0 (by decide) k); have hq_4 : (up (dbO G k) 3 0 (((dbO G k) 3 0) + 1)) 4 0 = (dbO G k) 4 0 := rfl; omega) (by have hq_3 : (up (dbO G k) 3 0 (((dbO G k) 3 0) + 1)) 3 0 = ((dbO G k) 3 0) + 1 := rfl; omega)) (cwV 1 F.2.2.2.2 gX0_buildDoubling_X0_putCallsOverStep rfl rfl rfl (by decide +kernel) ⟨Nat.le_of_ble_eq_true rfl, Nat.le_of_ble_eq_true rfl⟩) rfl rfl rfl rfl (Nat.le_of_ble_eq_true rfl) dX0_buildDoubling_74 ?_
                rintro _ rfl
                refine x_iinc (v := nI (k + 1)) (lv' := [(0, .ref h), (1, .int (nI (k + 1)))]) (pc := 77) F dX0_buildDoubling_77 1 rfl (nx_inc (b := 1) k (by decide)) (by decide) [1, 0] rfl ?_
                refine x_goto (tgt := 45) (pc := 80) F dX0_buildDoubling_80 (by decide) ?_
                refine x_I (congrArg (fun g => IC wX D h q cs s (g, L)) (show dbI (up (dbO G k) 3 0 (((dbO G k) 3 0) + 1)) stp ((up (dbO G k) 3 0 (((dbO G k) 3 0) + 1)) 0 0 - stp) = dbO G (k + 1) from (by rw [show (up (dbO G k) 3 0 (dbO G k 3 0 + 1)) 0 0 = G 0 0 from dbO_o G 0 (by decide) k, lg_pow hkk]; rfl))) ?_
                refine x_lv [0, 1] rfl ?_
                exact ih_45 (k + 1) (2 * stp) (by omega) (by omega) (by omega)
        refine x_lv [0, 1] rfl ?_
        exact cut_45 ((3 - 0) + 1) 0 1 (Or.inl ⟨rfl, rfl⟩) (by omega) (Nat.lt_succ_self _)
      · refine x_aload_n (pc := 28) F dX0_buildDoubling_28 0 rfl rfl ?_
        refine gX_graphKind (v := G 2 0) (pc := 29) F hK hin hm_graphKind rfl dX0_buildDoubling_29 ?_
        refine x_iconst (v := nI 4) (pc := 32) F dX0_buildDoubling_32 (by decide) ?_
        refine x_icmpN_eq (tgt := 39) (pc := 33) F dX0_buildDoubling_33 (by decide) (by omega) (by decide) (fun hc_33 => ?_) (fun hc_33 => ?_)
        · refine x_aload_n (pc := 39) F dX0_buildDoubling_39 0 rfl rfl ?_
          refine x_callv (w := wX) (ty := tX) (pc := 40) F hK wX_in [] [] (c_X0_dropRounds l G L) (cwV 0 F.2.2.2.2 gX0_buildDoubling_X0_dropRounds rfl rfl rfl (by decide +kernel) ⟨Nat.le_of_ble_eq_true rfl, Nat.le_of_ble_eq_true rfl⟩) rfl rfl rfl rfl (Nat.le_of_ble_eq_true rfl) dX0_buildDoubling_40 ?_
          rintro _ rfl
          refine x_iconst (v := nI 0) (pc := 43) F dX0_buildDoubling_43 (by decide) ?_
          refine x_istore_n (lv' := [(0, .ref h), (1, .int (nI 0))]) (pc := 44) F dX0_buildDoubling_44 rfl (by decide) [1, 0] rfl ?_
          refine x_I (congrArg (fun g => IC wX D h q cs s (g, L)) (show dropG G = dbO G 0 from rfl)) ?_
          have cut_45 : ∀ (fu : Nat) (k : Nat) (stp : Nat), ((k = 0 ∧ stp = 1) ∨ (k = 1 ∧ stp = 2) ∨ (k = 2 ∧ stp = 4) ∨ (k = 3 ∧ stp = 8)) → (stp ≤ G 0 0) → (3 - k) < fu → V p l e ({ frames := 2, cells := 0, slots := 0, locals := 45 }) s m args below meth c 2 0 0 Q0 (IC wX D h q cs s (dbO G k, L)) 45 [(0, .ref h), (1, .int (nI k))] [] := by
            intro fu
            induction fu with
            | zero => intro k stp hkk hks hfu; exact absurd hfu (Nat.not_lt_zero _)
            | succ fu ih_45 =>
              intro k stp hkk hks hfu
              refine x_iload_n (pc := 45) F dX0_buildDoubling_45 1 rfl rfl ?_
              refine x_iconst (v := nI 3) (pc := 46) F dX0_buildDoubling_46 (by decide) ?_
              refine x_icmpN_ge (tgt := 83) (pc := 47) F dX0_buildDoubling_47 (by decide) (by omega) (by decide) (fun hc_47 => ?_) (fun hc_47 => ?_)
              · refine x_aload_n (pc := 83) F dX0_buildDoubling_83 0 rfl rfl ?_
                refine gX_callTotal (v := (dbO G k) 4 0) (pc := 84) F hK hin hm_callTotal rfl dX0_buildDoubling_84 ?_
                exact x_reti (w := wX) (ty := tX) (pc := 87) F hK hr hlk hQ0 dX0_buildDoubling_87 (⟨by rw [sg_dbl, if_pos hc_4, if_neg (by omega), if_pos (by omega), lg_end hc_4 hkk hks (by omega)], by rw [sp_dbl, if_pos hc_4, if_neg (by omega), if_pos (by omega), lg_end hc_4 hkk hks (by omega)]⟩)
              · refine x_iconst (v := nI 1) (pc := 50) F dX0_buildDoubling_50 (by decide) ?_
                refine x_iload_n (pc := 51) F dX0_buildDoubling_51 1 rfl rfl ?_
                refine x_ishl (pc := 52) F dX0_buildDoubling_52 (lg_shl hkk) ?_
                refine x_aload_n (pc := 53) F dX0_buildDoubling_53 0 rfl rfl ?_
                refine gX_personTotal (v := G 0 0) (pc := 54) F hK hin hm_personTotal (dbO_o G 0 (by decide) k) dX0_buildDoubling_54 ?_
                refine x_icmpN_ge (tgt := 83) (pc := 57) F dX0_buildDoubling_57 (by decide) (by omega) (by omega) (fun hc_57 => ?_) (fun hc_57 => ?_)
                · refine x_aload_n (pc := 83) F dX0_buildDoubling_83 0 rfl rfl ?_
                  refine gX_callTotal (v := (dbO G k) 4 0) (pc := 84) F hK hin hm_callTotal rfl dX0_buildDoubling_84 ?_
                  exact x_reti (w := wX) (ty := tX) (pc := 87) F hK hr hlk hQ0 dX0_buildDoubling_87 (⟨by rw [sg_dbl, if_pos hc_4, if_neg (by omega), if_pos (by omega), lg_end hc_4 hkk hks (by omega)], by rw [sp_dbl, if_pos hc_4, if_neg (by omega), if_pos (by omega), lg_end hc_4 hkk hks (by omega)]⟩)
                · have h4 : dbO G k 4 0 ≤ 8 * k := Nat.le_trans (dbO_4 G k) (Nat.mul_le_mul_right k b2)
                  refine x_aload_n (pc := 60) F dX0_buildDoubling_60 0 rfl rfl ?_
                  refine x_dup (pc := 61) F dX0_buildDoubling_61 rfl ?_
                  refine gX_roundTotal (v := (dbO G k) 3 0) (pc := 62) F hK hin hm_roundTotal rfl dX0_buildDoubling_62 ?_
                  refine x_iconst (v := nI 1) (pc := 65) F dX0_buildDoubling_65 (by decide) ?_
                  refine x_iadd (z := nI (((dbO G k) 3 0) + 1)) (pc := 66) F dX0_buildDoubling_66 (nI_add ((dbO G k) 3 0) 1) ?_
                  refine pX_roundTotal (pc := 67) F hK hin hm_roundTotal dX0_buildDoubling_67 ?_
                  refine x_aload_n (pc := 70) F dX0_buildDoubling_70 0 rfl rfl ?_
                  refine x_iconst (v := nI 1) (pc := 71) F dX0_buildDoubling_71 (by decide) ?_
                  refine x_iload_n (pc := 72) F dX0_buildDoubling_72 1 rfl rfl ?_
                  refine x_ishl (pc := 73) F dX0_buildDoubling_73 (lg_shl hkk) ?_
                  refine x_callv (w := wX) (ty := tX) (pc := 74) F hK wX_in [.int (nI stp)] [] (c_X0_putCallsOverStep l (up (dbO G k) 3 0 (((dbO G k) 3 0) + 1)) L stp (by omega) (by have hq_0 : (up (dbO G k) 3 0 (((dbO G k) 3 0) + 1)) 0 0 = G 0 0 := (dbO_o G 0 (by decide) k); have hq_4 : (up (dbO G k) 3 0 (((dbO G k) 3 0) + 1)) 4 0 = (dbO G k) 4 0 := rfl; omega) (by have hq_0 : (up (dbO G k) 3 0 (((dbO G k) 3 0) + 1)) 0 0 = G 0 0 := (dbO_o G 0 (by decide) k); have hq_4 : (up (dbO G k) 3 0 (((dbO G k) 3 0) + 1)) 4 0 = (dbO G k) 4 0 := rfl; omega) (by have hq_3 : (up (dbO G k) 3 0 (((dbO G k) 3 0) + 1)) 3 0 = ((dbO G k) 3 0) + 1 := rfl; omega)) (cwV 1 F.2.2.2.2 gX0_buildDoubling_X0_putCallsOverStep rfl rfl rfl (by decide +kernel) ⟨Nat.le_of_ble_eq_true rfl, Nat.le_of_ble_eq_true rfl⟩) rfl rfl rfl rfl (Nat.le_of_ble_eq_true rfl) dX0_buildDoubling_74 ?_
                  rintro _ rfl
                  refine x_iinc (v := nI (k + 1)) (lv' := [(0, .ref h), (1, .int (nI (k + 1)))]) (pc := 77) F dX0_buildDoubling_77 1 rfl (nx_inc (b := 1) k (by decide)) (by decide) [1, 0] rfl ?_
                  refine x_goto (tgt := 45) (pc := 80) F dX0_buildDoubling_80 (by decide) ?_
                  refine x_I (congrArg (fun g => IC wX D h q cs s (g, L)) (show dbI (up (dbO G k) 3 0 (((dbO G k) 3 0) + 1)) stp ((up (dbO G k) 3 0 (((dbO G k) 3 0) + 1)) 0 0 - stp) = dbO G (k + 1) from (by rw [show (up (dbO G k) 3 0 (dbO G k 3 0 + 1)) 0 0 = G 0 0 from dbO_o G 0 (by decide) k, lg_pow hkk]; rfl))) ?_
                  refine x_lv [0, 1] rfl ?_
                  exact ih_45 (k + 1) (2 * stp) (by omega) (by omega) (by omega)
          refine x_lv [0, 1] rfl ?_
          exact cut_45 ((3 - 0) + 1) 0 1 (Or.inl ⟨rfl, rfl⟩) (by omega) (Nat.lt_succ_self _)
        · refine x_bipush (v := -10) (pc := 36) F dX0_buildDoubling_36 (by decide) ?_
          exact x_reti (w := wX) (ty := tX) (pc := 38) F hK hr hlk hQ0 dX0_buildDoubling_38 (⟨by rw [sg_dbl, if_pos hc_4, if_neg (by omega), if_neg (by omega)], by rw [sp_dbl, if_pos hc_4, if_neg (by omega), if_neg (by omega)]⟩)
    · refine x_bipush (v := -11) (pc := 18) F dX0_buildDoubling_18 (by decide) ?_
      exact x_reti (w := wX) (ty := tX) (pc := 20) F hK hr hlk hQ0 dX0_buildDoubling_20 (⟨by rw [sg_dbl, if_pos hc_4, if_pos (by omega)], by rw [sp_dbl, if_pos hc_4, if_pos (by omega)]⟩)
  · refine x_bipush (v := -14) (pc := 7) F dX0_buildDoubling_7 (by decide) ?_
    exact x_reti (w := wX) (ty := tX) (pc := 9) F hK hr hlk hQ0 dX0_buildDoubling_9 (⟨by rw [sg_dbl, if_neg hc_4], by rw [sp_dbl, if_neg hc_4]⟩)
set_option maxHeartbeats 4000000 in
set_option maxRecDepth 100000 in
theorem c_X0_buildFourCore (l : Launch) (G : GS) (L : Nat → Nat) (hG : ok G) : MCi wX tX l yX0_buildFourCore wsX0_buildFourCore ({ frames := 2, cells := 0, slots := 0, locals := 47 }) [] (G, L) (fun r u => u = (sg_fc G, L) ∧ r = sp_fc G) := by
  have hG0 := hG
  obtain ⟨b1, b2, b3, b4, b5, b6, b7, b8, b9, b10, b11⟩ := hG0
  refine x_starti (cc := cX0_buildFourCore) (maxL := 1) (ret := (some .int)) (own := RX0) (by decide) rfl rfl (fun _ => Nat.le_of_ble_eq_true rfl) ?_
  intro p e s m args below meth c D h q cs F hK hr hlk Q0 hQ0
  refine x_lv (lv' := [(0, .ref h)]) [0] rfl ?_
  have hin : ∀ w ∈ wsX00, w ∈ wsX0_buildFourCore := by decide +kernel
  have hm_personTotal : Cond.fieldLink RX0 9 "GossipSchedule" "personTotal" "I" ∈ wsX0_buildFourCore := by decide +kernel
  have hm_scheduleMode : Cond.fieldLink RX0 13 "GossipSchedule" "scheduleMode" "I" ∈ wsX0_buildFourCore := by decide +kernel
  have hm_graphKind : Cond.fieldLink RX0 16 "GossipSchedule" "graphKind" "I" ∈ wsX0_buildFourCore := by decide +kernel
  have hm_roundTotal : Cond.fieldLink RX0 55 "GossipSchedule" "roundTotal" "I" ∈ wsX0_buildFourCore := by decide +kernel
  have hm_callTotal : Cond.fieldLink RX0 70 "GossipSchedule" "callTotal" "I" ∈ wsX0_buildFourCore := by decide +kernel
  refine x_aload_n (pc := 0) F dX0_buildFourCore_0 0 rfl rfl ?_
  refine gX_personTotal (v := G 0 0) (pc := 1) F hK hin hm_personTotal rfl dX0_buildFourCore_1 ?_
  refine x_iconst (v := nI 4) (pc := 4) F dX0_buildFourCore_4 (by decide) ?_
  refine x_icmpN_ge (tgt := 11) (pc := 5) F dX0_buildFourCore_5 (by decide) (by omega) (by decide) (fun hc_5 => ?_) (fun hc_5 => ?_)
  · refine x_aload_n (pc := 11) F dX0_buildFourCore_11 0 rfl rfl ?_
    refine gX_scheduleMode (v := G 1 0) (pc := 12) F hK hin hm_scheduleMode rfl dX0_buildFourCore_12 ?_
    refine x_iconst (v := nI 2) (pc := 15) F dX0_buildFourCore_15 (by decide) ?_
    refine x_icmpN_ne (tgt := 22) (pc := 16) F dX0_buildFourCore_16 (by decide) (by omega) (by decide) (fun hc_16 => ?_) (fun hc_16 => ?_)
    · refine x_aload_n (pc := 22) F dX0_buildFourCore_22 0 rfl rfl ?_
      refine gX_graphKind (v := G 2 0) (pc := 23) F hK hin hm_graphKind rfl dX0_buildFourCore_23 ?_
      refine x_ifN_eq (tgt := 32) (pc := 26) F dX0_buildFourCore_26 (by decide) (by omega) (fun hc_26 => ?_) (fun hc_26 => ?_)
      · refine x_aload_n (pc := 32) F dX0_buildFourCore_32 0 rfl rfl ?_
        refine x_callv (w := wX) (ty := tX) (pc := 33) F hK wX_in [] [] (c_X0_dropRounds l G L) (cwV 0 F.2.2.2.2 gX0_buildFourCore_X0_dropRounds rfl rfl rfl (by decide +kernel) ⟨Nat.le_of_ble_eq_true rfl, Nat.le_of_ble_eq_true rfl⟩) rfl rfl rfl rfl (Nat.le_of_ble_eq_true rfl) dX0_buildFourCore_33 ?_
        rintro _ rfl
        refine x_aload_n (pc := 36) F dX0_buildFourCore_36 0 rfl rfl ?_
        refine x_iconst (v := nI 4) (pc := 37) F dX0_buildFourCore_37 (by decide) ?_
        refine x_iconst (v := nI 0) (pc := 38) F dX0_buildFourCore_38 (by decide) ?_
        refine x_callv (w := wX) (ty := tX) (pc := 39) F hK wX_in [.int (nI 4), .int (nI 0)] [] (c_X0_putGathering l (dropG G) L 4 0 (by omega) (by have hq_0 : (dropG G) 0 0 = G 0 0 := rfl; have hq_4 : (dropG G) 4 0 = 0 := rfl; omega) (by have hq_0 : (dropG G) 0 0 = G 0 0 := rfl; have hq_4 : (dropG G) 4 0 = 0 := rfl; omega) (by have hq_0 : (dropG G) 0 0 = G 0 0 := rfl; have hq_4 : (dropG G) 4 0 = 0 := rfl; omega)) (cwV 2 F.2.2.2.2 gX0_buildFourCore_X0_putGathering rfl rfl rfl (by decide +kernel) ⟨Nat.le_of_ble_eq_true rfl, Nat.le_of_ble_eq_true rfl⟩) rfl rfl rfl rfl (Nat.le_of_ble_eq_true rfl) dX0_buildFourCore_39 ?_
        rintro _ rfl
        refine x_I (congrArg (fun g => IC wX D h q cs s (g, L)) (show gat (dropG G) 0 4 ((dropG G) 0 0 - 4) = gat (dropG G) 0 4 (G 0 0 - 4) from by rw [show (dropG G) 0 0 = G 0 0 from rfl])) ?_
        refine x_aload_n (pc := 42) F dX0_buildFourCore_42 0 rfl rfl ?_
        refine x_dup (pc := 43) F dX0_buildFourCore_43 rfl ?_
        refine gX_roundTotal (v := (gat (dropG G) 0 4 (G 0 0 - 4)) 3 0) (pc := 44) F hK hin hm_roundTotal rfl dX0_buildFourCore_44 ?_
        refine x_iconst (v := nI 1) (pc := 47) F dX0_buildFourCore_47 (by decide) ?_
        refine x_iadd (z := nI (((gat (dropG G) 0 4 (G 0 0 - 4)) 3 0) + 1)) (pc := 48) F dX0_buildFourCore_48 (nI_add ((gat (dropG G) 0 4 (G 0 0 - 4)) 3 0) 1) ?_
        refine pX_roundTotal (pc := 49) F hK hin hm_roundTotal dX0_buildFourCore_49 ?_
        refine x_aload_n (pc := 52) F dX0_buildFourCore_52 0 rfl rfl ?_
        refine x_iconst (v := nI 0) (pc := 53) F dX0_buildFourCore_53 (by decide) ?_
        refine x_iconst (v := nI 1) (pc := 54) F dX0_buildFourCore_54 (by decide) ?_
        refine x_iconst (v := nI 0) (pc := 55) F dX0_buildFourCore_55 (by decide) ?_
        refine x_callv (w := wX) (ty := tX) (pc := 56) F hK wX_in [.int (nI 0), .int (nI 1), .int (nI 0)] [] (c_X0_putCall l (up (gat (dropG G) 0 4 (G 0 0 - 4)) 3 0 (((gat (dropG G) 0 4 (G 0 0 - 4)) 3 0) + 1)) L 0 1 0 (by omega) (by have hq_4 : (up (gat (dropG G) 0 4 (G 0 0 - 4)) 3 0 (((gat (dropG G) 0 4 (G 0 0 - 4)) 3 0) + 1)) 4 0 = 0 + (G 0 0 - 4) := ((seq_4 _ _ _ _ _).trans (congrArg (fun z : Nat => z + (G 0 0 - 4)) (show (dropG G) 4 0 = 0 from rfl))); omega) (by have hq_3 : (up (gat (dropG G) 0 4 (G 0 0 - 4)) 3 0 (((gat (dropG G) 0 4 (G 0 0 - 4)) 3 0) + 1)) 3 0 = ((gat (dropG G) 0 4 (G 0 0 - 4)) 3 0) + 1 := rfl; omega)) (cwV 3 F.2.2.2.2 gX0_buildFourCore_X0_putCall rfl rfl rfl (by decide +kernel) ⟨Nat.le_of_ble_eq_true rfl, Nat.le_of_ble_eq_true rfl⟩) rfl rfl rfl rfl (Nat.le_of_ble_eq_true rfl) dX0_buildFourCore_56 ?_
        rintro _ rfl
        refine x_aload_n (pc := 59) F dX0_buildFourCore_59 0 rfl rfl ?_
        refine x_iconst (v := nI 2) (pc := 60) F dX0_buildFourCore_60 (by decide) ?_
        refine x_iconst (v := nI 3) (pc := 61) F dX0_buildFourCore_61 (by decide) ?_
        refine x_iconst (v := nI 0) (pc := 62) F dX0_buildFourCore_62 (by decide) ?_
        refine x_callv (w := wX) (ty := tX) (pc := 63) F hK wX_in [.int (nI 2), .int (nI 3), .int (nI 0)] [] (c_X0_putCall l (putG (up (gat (dropG G) 0 4 (G 0 0 - 4)) 3 0 (((gat (dropG G) 0 4 (G 0 0 - 4)) 3 0) + 1)) 0 1 0) L 2 3 0 (by omega) (by have hq_4 : (putG (up (gat (dropG G) 0 4 (G 0 0 - 4)) 3 0 (((gat (dropG G) 0 4 (G 0 0 - 4)) 3 0) + 1)) 0 1 0) 4 0 = (0 + (G 0 0 - 4)) + 1 := (congrArg (· + 1) ((seq_4 _ _ _ _ _).trans (congrArg (fun z : Nat => z + (G 0 0 - 4)) (show (dropG G) 4 0 = 0 from rfl)))); omega) (by have hq_3 : (putG (up (gat (dropG G) 0 4 (G 0 0 - 4)) 3 0 (((gat (dropG G) 0 4 (G 0 0 - 4)) 3 0) + 1)) 0 1 0) 3 0 = ((gat (dropG G) 0 4 (G 0 0 - 4)) 3 0) + 1 := rfl; omega)) (cwV 3 F.2.2.2.2 gX0_buildFourCore_X0_putCall rfl rfl rfl (by decide +kernel) ⟨Nat.le_of_ble_eq_true rfl, Nat.le_of_ble_eq_true rfl⟩) rfl rfl rfl rfl (Nat.le_of_ble_eq_true rfl) dX0_buildFourCore_63 ?_
        rintro _ rfl
        refine x_aload_n (pc := 66) F dX0_buildFourCore_66 0 rfl rfl ?_
        refine x_dup (pc := 67) F dX0_buildFourCore_67 rfl ?_
        refine gX_roundTotal (v := ((gat (dropG G) 0 4 (G 0 0 - 4)) 3 0) + 1) (pc := 68) F hK hin hm_roundTotal rfl dX0_buildFourCore_68 ?_
        refine x_iconst (v := nI 1) (pc := 71) F dX0_buildFourCore_71 (by decide) ?_
        refine x_iadd (z := nI ((((gat (dropG G) 0 4 (G 0 0 - 4)) 3 0) + 1) + 1)) (pc := 72) F dX0_buildFourCore_72 (nI_add (((gat (dropG G) 0 4 (G 0 0 - 4)) 3 0) + 1) 1) ?_
        refine pX_roundTotal (pc := 73) F hK hin hm_roundTotal dX0_buildFourCore_73 ?_
        refine x_aload_n (pc := 76) F dX0_buildFourCore_76 0 rfl rfl ?_
        refine x_iconst (v := nI 0) (pc := 77) F dX0_buildFourCore_77 (by decide) ?_
        refine x_iconst (v := nI 2) (pc := 78) F dX0_buildFourCore_78 (by decide) ?_
        refine x_iconst (v := nI 0) (pc := 79) F dX0_buildFourCore_79 (by decide) ?_
        refine x_callv (w := wX) (ty := tX) (pc := 80) F hK wX_in [.int (nI 0), .int (nI 2), .int (nI 0)] [] (c_X0_putCall l (up (putG (putG (up (gat (dropG G) 0 4 (G 0 0 - 4)) 3 0 (((gat (dropG G) 0 4 (G 0 0 - 4)) 3 0) + 1)) 0 1 0) 2 3 0) 3 0 ((((gat (dropG G) 0 4 (G 0 0 - 4)) 3 0) + 1) + 1)) L 0 2 0 (by omega) (by have hq_4 : (up (putG (putG (up (gat (dropG G) 0 4 (G 0 0 - 4)) 3 0 (((gat (dropG G) 0 4 (G 0 0 - 4)) 3 0) + 1)) 0 1 0) 2 3 0) 3 0 ((((gat (dropG G) 0 4 (G 0 0 - 4)) 3 0) + 1) + 1)) 4 0 = ((0 + (G 0 0 - 4)) + 1) + 1 := (congrArg (· + 1) (congrArg (· + 1) ((seq_4 _ _ _ _ _).trans (congrArg (fun z : Nat => z + (G 0 0 - 4)) (show (dropG G) 4 0 = 0 from rfl))))); omega) (by have hq_3 : (up (putG (putG (up (gat (dropG G) 0 4 (G 0 0 - 4)) 3 0 (((gat (dropG G) 0 4 (G 0 0 - 4)) 3 0) + 1)) 0 1 0) 2 3 0) 3 0 ((((gat (dropG G) 0 4 (G 0 0 - 4)) 3 0) + 1) + 1)) 3 0 = (((gat (dropG G) 0 4 (G 0 0 - 4)) 3 0) + 1) + 1 := rfl; omega)) (cwV 3 F.2.2.2.2 gX0_buildFourCore_X0_putCall rfl rfl rfl (by decide +kernel) ⟨Nat.le_of_ble_eq_true rfl, Nat.le_of_ble_eq_true rfl⟩) rfl rfl rfl rfl (Nat.le_of_ble_eq_true rfl) dX0_buildFourCore_80 ?_
        rintro _ rfl
        refine x_aload_n (pc := 83) F dX0_buildFourCore_83 0 rfl rfl ?_
        refine x_iconst (v := nI 1) (pc := 84) F dX0_buildFourCore_84 (by decide) ?_
        refine x_iconst (v := nI 3) (pc := 85) F dX0_buildFourCore_85 (by decide) ?_
        refine x_iconst (v := nI 0) (pc := 86) F dX0_buildFourCore_86 (by decide) ?_
        refine x_callv (w := wX) (ty := tX) (pc := 87) F hK wX_in [.int (nI 1), .int (nI 3), .int (nI 0)] [] (c_X0_putCall l (putG (up (putG (putG (up (gat (dropG G) 0 4 (G 0 0 - 4)) 3 0 (((gat (dropG G) 0 4 (G 0 0 - 4)) 3 0) + 1)) 0 1 0) 2 3 0) 3 0 ((((gat (dropG G) 0 4 (G 0 0 - 4)) 3 0) + 1) + 1)) 0 2 0) L 1 3 0 (by omega) (by have hq_4 : (putG (up (putG (putG (up (gat (dropG G) 0 4 (G 0 0 - 4)) 3 0 (((gat (dropG G) 0 4 (G 0 0 - 4)) 3 0) + 1)) 0 1 0) 2 3 0) 3 0 ((((gat (dropG G) 0 4 (G 0 0 - 4)) 3 0) + 1) + 1)) 0 2 0) 4 0 = (((0 + (G 0 0 - 4)) + 1) + 1) + 1 := (congrArg (· + 1) (congrArg (· + 1) (congrArg (· + 1) ((seq_4 _ _ _ _ _).trans (congrArg (fun z : Nat => z + (G 0 0 - 4)) (show (dropG G) 4 0 = 0 from rfl)))))); omega) (by have hq_3 : (putG (up (putG (putG (up (gat (dropG G) 0 4 (G 0 0 - 4)) 3 0 (((gat (dropG G) 0 4 (G 0 0 - 4)) 3 0) + 1)) 0 1 0) 2 3 0) 3 0 ((((gat (dropG G) 0 4 (G 0 0 - 4)) 3 0) + 1) + 1)) 0 2 0) 3 0 = (((gat (dropG G) 0 4 (G 0 0 - 4)) 3 0) + 1) + 1 := rfl; omega)) (cwV 3 F.2.2.2.2 gX0_buildFourCore_X0_putCall rfl rfl rfl (by decide +kernel) ⟨Nat.le_of_ble_eq_true rfl, Nat.le_of_ble_eq_true rfl⟩) rfl rfl rfl rfl (Nat.le_of_ble_eq_true rfl) dX0_buildFourCore_87 ?_
        rintro _ rfl
        refine x_aload_n (pc := 90) F dX0_buildFourCore_90 0 rfl rfl ?_
        refine x_iconst (v := nI 4) (pc := 91) F dX0_buildFourCore_91 (by decide) ?_
        refine x_aload_n (pc := 92) F dX0_buildFourCore_92 0 rfl rfl ?_
        refine gX_personTotal (v := G 0 0) (pc := 93) F hK hin hm_personTotal ((seq_o _ _ _ _ 0 (by decide) _).trans rfl) dX0_buildFourCore_93 ?_
        refine x_iconst (v := nI 1) (pc := 96) F dX0_buildFourCore_96 (by decide) ?_
        refine x_isub (z := nI (G 0 0 - 1)) (pc := 97) F dX0_buildFourCore_97 (pk_sub (by omega)) ?_
        refine x_iconst (v := nI 0) (pc := 98) F dX0_buildFourCore_98 (by decide) ?_
        refine x_callv (w := wX) (ty := tX) (pc := 99) F hK wX_in [.int (nI 4), .int (nI (G 0 0 - 1)), .int (nI 0)] [] (c_X0_putSpreading l (putG (putG (up (putG (putG (up (gat (dropG G) 0 4 (G 0 0 - 4)) 3 0 (((gat (dropG G) 0 4 (G 0 0 - 4)) 3 0) + 1)) 0 1 0) 2 3 0) 3 0 ((((gat (dropG G) 0 4 (G 0 0 - 4)) 3 0) + 1) + 1)) 0 2 0) 1 3 0) L 4 (G 0 0 - 1) 0 (by omega) (by have hq_0 : (putG (putG (up (putG (putG (up (gat (dropG G) 0 4 (G 0 0 - 4)) 3 0 (((gat (dropG G) 0 4 (G 0 0 - 4)) 3 0) + 1)) 0 1 0) 2 3 0) 3 0 ((((gat (dropG G) 0 4 (G 0 0 - 4)) 3 0) + 1) + 1)) 0 2 0) 1 3 0) 0 0 = G 0 0 := ((seq_o _ _ _ _ 0 (by decide) _).trans rfl); have hq_4 : (putG (putG (up (putG (putG (up (gat (dropG G) 0 4 (G 0 0 - 4)) 3 0 (((gat (dropG G) 0 4 (G 0 0 - 4)) 3 0) + 1)) 0 1 0) 2 3 0) 3 0 ((((gat (dropG G) 0 4 (G 0 0 - 4)) 3 0) + 1) + 1)) 0 2 0) 1 3 0) 4 0 = ((((0 + (G 0 0 - 4)) + 1) + 1) + 1) + 1 := (congrArg (· + 1) (congrArg (· + 1) (congrArg (· + 1) (congrArg (· + 1) ((seq_4 _ _ _ _ _).trans (congrArg (fun z : Nat => z + (G 0 0 - 4)) (show (dropG G) 4 0 = 0 from rfl))))))); omega) (by have hq_0 : (putG (putG (up (putG (putG (up (gat (dropG G) 0 4 (G 0 0 - 4)) 3 0 (((gat (dropG G) 0 4 (G 0 0 - 4)) 3 0) + 1)) 0 1 0) 2 3 0) 3 0 ((((gat (dropG G) 0 4 (G 0 0 - 4)) 3 0) + 1) + 1)) 0 2 0) 1 3 0) 0 0 = G 0 0 := ((seq_o _ _ _ _ 0 (by decide) _).trans rfl); have hq_4 : (putG (putG (up (putG (putG (up (gat (dropG G) 0 4 (G 0 0 - 4)) 3 0 (((gat (dropG G) 0 4 (G 0 0 - 4)) 3 0) + 1)) 0 1 0) 2 3 0) 3 0 ((((gat (dropG G) 0 4 (G 0 0 - 4)) 3 0) + 1) + 1)) 0 2 0) 1 3 0) 4 0 = ((((0 + (G 0 0 - 4)) + 1) + 1) + 1) + 1 := (congrArg (· + 1) (congrArg (· + 1) (congrArg (· + 1) (congrArg (· + 1) ((seq_4 _ _ _ _ _).trans (congrArg (fun z : Nat => z + (G 0 0 - 4)) (show (dropG G) 4 0 = 0 from rfl))))))); omega) (by have hq_0 : (putG (putG (up (putG (putG (up (gat (dropG G) 0 4 (G 0 0 - 4)) 3 0 (((gat (dropG G) 0 4 (G 0 0 - 4)) 3 0) + 1)) 0 1 0) 2 3 0) 3 0 ((((gat (dropG G) 0 4 (G 0 0 - 4)) 3 0) + 1) + 1)) 0 2 0) 1 3 0) 0 0 = G 0 0 := ((seq_o _ _ _ _ 0 (by decide) _).trans rfl); have hq_4 : (putG (putG (up (putG (putG (up (gat (dropG G) 0 4 (G 0 0 - 4)) 3 0 (((gat (dropG G) 0 4 (G 0 0 - 4)) 3 0) + 1)) 0 1 0) 2 3 0) 3 0 ((((gat (dropG G) 0 4 (G 0 0 - 4)) 3 0) + 1) + 1)) 0 2 0) 1 3 0) 4 0 = ((((0 + (G 0 0 - 4)) + 1) + 1) + 1) + 1 := (congrArg (· + 1) (congrArg (· + 1) (congrArg (· + 1) (congrArg (· + 1) ((seq_4 _ _ _ _ _).trans (congrArg (fun z : Nat => z + (G 0 0 - 4)) (show (dropG G) 4 0 = 0 from rfl))))))); omega)) (cwV 3 F.2.2.2.2 gX0_buildFourCore_X0_putSpreading rfl rfl rfl (by decide +kernel) ⟨Nat.le_of_ble_eq_true rfl, Nat.le_of_ble_eq_true rfl⟩) rfl rfl rfl rfl (Nat.le_of_ble_eq_true rfl) dX0_buildFourCore_99 ?_
        rintro _ rfl
        refine x_aload_n (pc := 102) F dX0_buildFourCore_102 0 rfl rfl ?_
        refine gX_callTotal (v := (spr (putG (putG (up (putG (putG (up (gat (dropG G) 0 4 (G 0 0 - 4)) 3 0 (((gat (dropG G) 0 4 (G 0 0 - 4)) 3 0) + 1)) 0 1 0) 2 3 0) 3 0 ((((gat (dropG G) 0 4 (G 0 0 - 4)) 3 0) + 1) + 1)) 0 2 0) 1 3 0) 0 4 (G 0 0 - 1 + 1 - 4)) 4 0) (pc := 103) F hK hin hm_callTotal rfl dX0_buildFourCore_103 ?_
        exact x_reti (w := wX) (ty := tX) (pc := 106) F hK hr hlk hQ0 dX0_buildFourCore_106 (⟨by rw [sg_fc, if_pos (by omega), if_neg (by omega), if_pos (by omega), fcF_e G (by omega)]; rfl, by rw [sp_fc, if_pos (by omega), if_neg (by omega), if_pos (by omega), fcF_e G (by omega)]; rfl⟩)
      · refine x_bipush (v := -10) (pc := 29) F dX0_buildFourCore_29 (by decide) ?_
        exact x_reti (w := wX) (ty := tX) (pc := 31) F hK hr hlk hQ0 dX0_buildFourCore_31 (⟨by rw [sg_fc, if_pos (by omega), if_neg (by omega), if_neg (by omega)], by rw [sp_fc, if_pos (by omega), if_neg (by omega), if_neg (by omega)]⟩)
    · refine x_bipush (v := -11) (pc := 19) F dX0_buildFourCore_19 (by decide) ?_
      exact x_reti (w := wX) (ty := tX) (pc := 21) F hK hr hlk hQ0 dX0_buildFourCore_21 (⟨by rw [sg_fc, if_pos (by omega), if_pos (by omega)], by rw [sp_fc, if_pos (by omega), if_pos (by omega)]⟩)
  · refine x_bipush (v := -14) (pc := 8) F dX0_buildFourCore_8 (by decide) ?_
    exact x_reti (w := wX) (ty := tX) (pc := 10) F hK hr hlk hQ0 dX0_buildFourCore_10 (⟨by rw [sg_fc, if_neg (by omega)], by rw [sp_fc, if_neg (by omega)]⟩)
set_option maxHeartbeats 4000000 in
set_option maxRecDepth 100000 in
theorem c_X0_buildGatherSpread (l : Launch) (G : GS) (L : Nat → Nat) (hG : ok G) : MCi wX tX l yX0_buildGatherSpread wsX0_buildGatherSpread ({ frames := 2, cells := 0, slots := 0, locals := 47 }) [] (G, L) (fun r u => u = (sg_gs G, L) ∧ r = sp_gs G) := by
  have hG0 := hG
  obtain ⟨b1, b2, b3, b4, b5, b6, b7, b8, b9, b10, b11⟩ := hG0
  refine x_starti (cc := cX0_buildGatherSpread) (maxL := 3) (ret := (some .int)) (own := RX0) (by decide) rfl rfl (fun _ => Nat.le_of_ble_eq_true rfl) ?_
  intro p e s m args below meth c D h q cs F hK hr hlk Q0 hQ0
  refine x_lv (lv' := [(0, .ref h)]) [0] rfl ?_
  have hin : ∀ w ∈ wsX00, w ∈ wsX0_buildGatherSpread := by decide +kernel
  have hm_personTotal : Cond.fieldLink RX0 9 "GossipSchedule" "personTotal" "I" ∈ wsX0_buildGatherSpread := by decide +kernel
  have hm_scheduleMode : Cond.fieldLink RX0 13 "GossipSchedule" "scheduleMode" "I" ∈ wsX0_buildGatherSpread := by decide +kernel
  have hm_callTotal : Cond.fieldLink RX0 70 "GossipSchedule" "callTotal" "I" ∈ wsX0_buildGatherSpread := by decide +kernel
  refine x_iconst (v := nI 1) (pc := 0) F dX0_buildGatherSpread_0 (by decide) ?_
  refine x_istore_n (lv' := [(0, .ref h), (1, .int (nI 1))]) (pc := 1) F dX0_buildGatherSpread_1 rfl (by decide) [1, 0] rfl ?_
  have cut_2 : ∀ (fu : Nat) (k : Nat), (k + 1 ≤ G 0 0) → (allE G k = true) → (G 0 0 - k) < fu → V p l e ({ frames := 2, cells := 0, slots := 0, locals := 47 }) s m args below meth c 3 0 0 Q0 (IC wX D h q cs s (G, L)) 2 [(0, .ref h), (1, .int (nI (k + 1)))] [] := by
    intro fu
    induction fu with
    | zero => intro k hk hall hfu; exact absurd hfu (Nat.not_lt_zero _)
    | succ fu ih_2 =>
      intro k hk hall hfu
      refine x_iload_n (pc := 2) F dX0_buildGatherSpread_2 1 rfl rfl ?_
      refine x_aload_n (pc := 3) F dX0_buildGatherSpread_3 0 rfl rfl ?_
      refine gX_personTotal (v := G 0 0) (pc := 4) F hK hin hm_personTotal rfl dX0_buildGatherSpread_4 ?_
      refine x_icmpN_ge (tgt := 28) (pc := 7) F dX0_buildGatherSpread_7 (by decide) (by omega) (by omega) (fun hc_7 => ?_) (fun hc_7 => ?_)
      · refine x_aload_n (pc := 28) F dX0_buildGatherSpread_28 0 rfl rfl ?_
        refine gX_scheduleMode (v := G 1 0) (pc := 29) F hK hin hm_scheduleMode rfl dX0_buildGatherSpread_29 ?_
        refine x_iconst (v := nI 2) (pc := 32) F dX0_buildGatherSpread_32 (by decide) ?_
        refine x_icmpN_ne (tgt := 40) (pc := 33) F dX0_buildGatherSpread_33 (by decide) (by omega) (by decide) (fun hc_33 => ?_) (fun hc_33 => ?_)
        · refine x_iconst (v := nI 0) (pc := 40) F dX0_buildGatherSpread_40 (by decide) ?_
          refine x_istore_n (lv' := [(0, .ref h), (1, .int (nI 0))]) (pc := 41) F dX0_buildGatherSpread_41 rfl (by decide) [1, 0] rfl ?_
          refine x_iload_n (pc := 42) F dX0_buildGatherSpread_42 1 rfl rfl ?_
          refine x_ifN_eq (tgt := 55) (pc := 43) F dX0_buildGatherSpread_43 (by decide) (by decide) (fun _ => ?_) (fun hz => absurd hz (by decide))
          refine x_aload_n (pc := 55) F dX0_buildGatherSpread_55 0 rfl rfl ?_
          refine gX_personTotal (v := G 0 0) (pc := 56) F hK hin hm_personTotal rfl dX0_buildGatherSpread_56 ?_
          refine x_iconst (v := nI 2) (pc := 59) F dX0_buildGatherSpread_59 (by decide) ?_
          refine x_isub (z := nI (G 0 0 - 2)) (pc := 60) F dX0_buildGatherSpread_60 (pk_sub (by omega)) ?_
          refine x_istore_n (lv' := [(0, .ref h), (1, .int (nI 0)), (2, .int (nI (G 0 0 - 2)))]) (pc := 61) F dX0_buildGatherSpread_61 rfl (by decide) [1, 2, 0] rfl ?_
          refine x_aload_n (pc := 62) F dX0_buildGatherSpread_62 0 rfl rfl ?_
          refine x_callv (w := wX) (ty := tX) (pc := 63) F hK wX_in [] [] (c_X0_dropRounds l G L) (cwV 0 F.2.2.2.2 gX0_buildGatherSpread_X0_dropRounds rfl rfl rfl (by decide +kernel) ⟨Nat.le_of_ble_eq_true rfl, Nat.le_of_ble_eq_true rfl⟩) rfl rfl rfl rfl (Nat.le_of_ble_eq_true rfl) dX0_buildGatherSpread_63 ?_
          rintro _ rfl
          refine x_aload_n (pc := 66) F dX0_buildGatherSpread_66 0 rfl rfl ?_
          refine x_iconst (v := nI 1) (pc := 67) F dX0_buildGatherSpread_67 (by decide) ?_
          refine x_iload_n (pc := 68) F dX0_buildGatherSpread_68 1 rfl rfl ?_
          refine x_callv (w := wX) (ty := tX) (pc := 69) F hK wX_in [.int (nI 1), .int (nI 0)] [] (c_X0_putGathering l (dropG G) L 1 0 (by omega) (by have hq_0 : (dropG G) 0 0 = G 0 0 := rfl; have hq_4 : (dropG G) 4 0 = 0 := rfl; omega) (by have hq_0 : (dropG G) 0 0 = G 0 0 := rfl; have hq_4 : (dropG G) 4 0 = 0 := rfl; omega) (by have hq_0 : (dropG G) 0 0 = G 0 0 := rfl; have hq_4 : (dropG G) 4 0 = 0 := rfl; omega)) (cwV 2 F.2.2.2.2 gX0_buildGatherSpread_X0_putGathering rfl rfl rfl (by decide +kernel) ⟨Nat.le_of_ble_eq_true rfl, Nat.le_of_ble_eq_true rfl⟩) rfl rfl rfl rfl (Nat.le_of_ble_eq_true rfl) dX0_buildGatherSpread_69 ?_
          rintro _ rfl
          refine x_I (congrArg (fun g => IC wX D h q cs s (g, L)) (show gat (dropG G) 0 1 ((dropG G) 0 0 - 1) = gat (dropG G) 0 1 (G 0 0 - 1) from by rw [show (dropG G) 0 0 = G 0 0 from rfl])) ?_
          refine x_aload_n (pc := 72) F dX0_buildGatherSpread_72 0 rfl rfl ?_
          refine x_iconst (v := nI 1) (pc := 73) F dX0_buildGatherSpread_73 (by decide) ?_
          refine x_iload_n (pc := 74) F dX0_buildGatherSpread_74 2 rfl rfl ?_
          refine x_iload_n (pc := 75) F dX0_buildGatherSpread_75 1 rfl rfl ?_
          refine x_callv (w := wX) (ty := tX) (pc := 76) F hK wX_in [.int (nI 1), .int (nI (G 0 0 - 2)), .int (nI 0)] [] (c_X0_putSpreading l (gat (dropG G) 0 1 (G 0 0 - 1)) L 1 (G 0 0 - 2) 0 (by omega) (by have hq_0 : (gat (dropG G) 0 1 (G 0 0 - 1)) 0 0 = G 0 0 := ((seq_o _ _ _ _ 0 (by decide) _).trans rfl); have hq_4 : (gat (dropG G) 0 1 (G 0 0 - 1)) 4 0 = 0 + (G 0 0 - 1) := ((seq_4 _ _ _ _ _).trans (congrArg (fun z : Nat => z + (G 0 0 - 1)) (show (dropG G) 4 0 = 0 from rfl))); omega) (by have hq_0 : (gat (dropG G) 0 1 (G 0 0 - 1)) 0 0 = G 0 0 := ((seq_o _ _ _ _ 0 (by decide) _).trans rfl); have hq_4 : (gat (dropG G) 0 1 (G 0 0 - 1)) 4 0 = 0 + (G 0 0 - 1) := ((seq_4 _ _ _ _ _).trans (congrArg (fun z : Nat => z + (G 0 0 - 1)) (show (dropG G) 4 0 = 0 from rfl))); omega) (by have hq_0 : (gat (dropG G) 0 1 (G 0 0 - 1)) 0 0 = G 0 0 := ((seq_o _ _ _ _ 0 (by decide) _).trans rfl); have hq_4 : (gat (dropG G) 0 1 (G 0 0 - 1)) 4 0 = 0 + (G 0 0 - 1) := ((seq_4 _ _ _ _ _).trans (congrArg (fun z : Nat => z + (G 0 0 - 1)) (show (dropG G) 4 0 = 0 from rfl))); omega)) (cwV 3 F.2.2.2.2 gX0_buildGatherSpread_X0_putSpreading rfl rfl rfl (by decide +kernel) ⟨Nat.le_of_ble_eq_true rfl, Nat.le_of_ble_eq_true rfl⟩) rfl rfl rfl rfl (Nat.le_of_ble_eq_true rfl) dX0_buildGatherSpread_76 ?_
          rintro _ rfl
          refine x_aload_n (pc := 79) F dX0_buildGatherSpread_79 0 rfl rfl ?_
          refine gX_callTotal (v := (spr (gat (dropG G) 0 1 (G 0 0 - 1)) 0 1 (G 0 0 - 2 + 1 - 1)) 4 0) (pc := 80) F hK hin hm_callTotal rfl dX0_buildGatherSpread_80 ?_
          exact x_reti (w := wX) (ty := tX) (pc := 83) F hK hr hlk hQ0 dX0_buildGatherSpread_83 (⟨by rw [sg_gs, if_pos (show allE G (G 0 0 - 1) = true from by rw [show G 0 0 - 1 = k by omega]; exact hall), gsF_f hc_33], by rw [sp_gs, if_pos (show allE G (G 0 0 - 1) = true from by rw [show G 0 0 - 1 = k by omega]; exact hall), gsF_f hc_33]⟩)
        · refine x_iconst (v := nI 1) (pc := 36) F dX0_buildGatherSpread_36 (by decide) ?_
          refine x_goto (tgt := 41) (pc := 37) F dX0_buildGatherSpread_37 (by decide) ?_
          refine x_istore_n (lv' := [(0, .ref h), (1, .int (nI 1))]) (pc := 41) F dX0_buildGatherSpread_41 rfl (by decide) [1, 0] rfl ?_
          refine x_iload_n (pc := 42) F dX0_buildGatherSpread_42 1 rfl rfl ?_
          refine x_ifN_eq (tgt := 55) (pc := 43) F dX0_buildGatherSpread_43 (by decide) (by decide) (fun hz => absurd hz (by decide)) (fun _ => ?_)
          refine x_aload_n (pc := 46) F dX0_buildGatherSpread_46 0 rfl rfl ?_
          refine gX_personTotal (v := G 0 0) (pc := 47) F hK hin hm_personTotal rfl dX0_buildGatherSpread_47 ?_
          refine x_iconst (v := nI 1) (pc := 50) F dX0_buildGatherSpread_50 (by decide) ?_
          refine x_isub (z := nI (G 0 0 - 1)) (pc := 51) F dX0_buildGatherSpread_51 (pk_sub (by omega)) ?_
          refine x_goto (tgt := 61) (pc := 52) F dX0_buildGatherSpread_52 (by decide) ?_
          refine x_istore_n (lv' := [(0, .ref h), (1, .int (nI 1)), (2, .int (nI (G 0 0 - 1)))]) (pc := 61) F dX0_buildGatherSpread_61 rfl (by decide) [1, 2, 0] rfl ?_
          refine x_aload_n (pc := 62) F dX0_buildGatherSpread_62 0 rfl rfl ?_
          refine x_callv (w := wX) (ty := tX) (pc := 63) F hK wX_in [] [] (c_X0_dropRounds l G L) (cwV 0 F.2.2.2.2 gX0_buildGatherSpread_X0_dropRounds rfl rfl rfl (by decide +kernel) ⟨Nat.le_of_ble_eq_true rfl, Nat.le_of_ble_eq_true rfl⟩) rfl rfl rfl rfl (Nat.le_of_ble_eq_true rfl) dX0_buildGatherSpread_63 ?_
          rintro _ rfl
          refine x_aload_n (pc := 66) F dX0_buildGatherSpread_66 0 rfl rfl ?_
          refine x_iconst (v := nI 1) (pc := 67) F dX0_buildGatherSpread_67 (by decide) ?_
          refine x_iload_n (pc := 68) F dX0_buildGatherSpread_68 1 rfl rfl ?_
          refine x_callv (w := wX) (ty := tX) (pc := 69) F hK wX_in [.int (nI 1), .int (nI 1)] [] (c_X0_putGathering l (dropG G) L 1 1 (by omega) (by have hq_0 : (dropG G) 0 0 = G 0 0 := rfl; have hq_4 : (dropG G) 4 0 = 0 := rfl; omega) (by have hq_0 : (dropG G) 0 0 = G 0 0 := rfl; have hq_4 : (dropG G) 4 0 = 0 := rfl; omega) (by have hq_0 : (dropG G) 0 0 = G 0 0 := rfl; have hq_4 : (dropG G) 4 0 = 0 := rfl; omega)) (cwV 2 F.2.2.2.2 gX0_buildGatherSpread_X0_putGathering rfl rfl rfl (by decide +kernel) ⟨Nat.le_of_ble_eq_true rfl, Nat.le_of_ble_eq_true rfl⟩) rfl rfl rfl rfl (Nat.le_of_ble_eq_true rfl) dX0_buildGatherSpread_69 ?_
          rintro _ rfl
          refine x_I (congrArg (fun g => IC wX D h q cs s (g, L)) (show gat (dropG G) 1 1 ((dropG G) 0 0 - 1) = gat (dropG G) 1 1 (G 0 0 - 1) from by rw [show (dropG G) 0 0 = G 0 0 from rfl])) ?_
          refine x_aload_n (pc := 72) F dX0_buildGatherSpread_72 0 rfl rfl ?_
          refine x_iconst (v := nI 1) (pc := 73) F dX0_buildGatherSpread_73 (by decide) ?_
          refine x_iload_n (pc := 74) F dX0_buildGatherSpread_74 2 rfl rfl ?_
          refine x_iload_n (pc := 75) F dX0_buildGatherSpread_75 1 rfl rfl ?_
          refine x_callv (w := wX) (ty := tX) (pc := 76) F hK wX_in [.int (nI 1), .int (nI (G 0 0 - 1)), .int (nI 1)] [] (c_X0_putSpreading l (gat (dropG G) 1 1 (G 0 0 - 1)) L 1 (G 0 0 - 1) 1 (by omega) (by have hq_0 : (gat (dropG G) 1 1 (G 0 0 - 1)) 0 0 = G 0 0 := ((seq_o _ _ _ _ 0 (by decide) _).trans rfl); have hq_4 : (gat (dropG G) 1 1 (G 0 0 - 1)) 4 0 = 0 + (G 0 0 - 1) := ((seq_4 _ _ _ _ _).trans (congrArg (fun z : Nat => z + (G 0 0 - 1)) (show (dropG G) 4 0 = 0 from rfl))); omega) (by have hq_0 : (gat (dropG G) 1 1 (G 0 0 - 1)) 0 0 = G 0 0 := ((seq_o _ _ _ _ 0 (by decide) _).trans rfl); have hq_4 : (gat (dropG G) 1 1 (G 0 0 - 1)) 4 0 = 0 + (G 0 0 - 1) := ((seq_4 _ _ _ _ _).trans (congrArg (fun z : Nat => z + (G 0 0 - 1)) (show (dropG G) 4 0 = 0 from rfl))); omega) (by have hq_0 : (gat (dropG G) 1 1 (G 0 0 - 1)) 0 0 = G 0 0 := ((seq_o _ _ _ _ 0 (by decide) _).trans rfl); have hq_4 : (gat (dropG G) 1 1 (G 0 0 - 1)) 4 0 = 0 + (G 0 0 - 1) := ((seq_4 _ _ _ _ _).trans (congrArg (fun z : Nat => z + (G 0 0 - 1)) (show (dropG G) 4 0 = 0 from rfl))); omega)) (cwV 3 F.2.2.2.2 gX0_buildGatherSpread_X0_putSpreading rfl rfl rfl (by decide +kernel) ⟨Nat.le_of_ble_eq_true rfl, Nat.le_of_ble_eq_true rfl⟩) rfl rfl rfl rfl (Nat.le_of_ble_eq_true rfl) dX0_buildGatherSpread_76 ?_
          rintro _ rfl
          refine x_aload_n (pc := 79) F dX0_buildGatherSpread_79 0 rfl rfl ?_
          refine gX_callTotal (v := (spr (gat (dropG G) 1 1 (G 0 0 - 1)) 1 1 (G 0 0 - 1 + 1 - 1)) 4 0) (pc := 80) F hK hin hm_callTotal rfl dX0_buildGatherSpread_80 ?_
          exact x_reti (w := wX) (ty := tX) (pc := 83) F hK hr hlk hQ0 dX0_buildGatherSpread_83 (⟨by rw [sg_gs, if_pos (show allE G (G 0 0 - 1) = true from by rw [show G 0 0 - 1 = k by omega]; exact hall), gsF_t hc_33], by rw [sp_gs, if_pos (show allE G (G 0 0 - 1) = true from by rw [show G 0 0 - 1 = k by omega]; exact hall), gsF_t hc_33]⟩)
      · refine x_aload_n (pc := 10) F dX0_buildGatherSpread_10 0 rfl rfl ?_
        refine x_iconst (v := nI 0) (pc := 11) F dX0_buildGatherSpread_11 (by decide) ?_
        refine x_iload_n (pc := 12) F dX0_buildGatherSpread_12 1 rfl rfl ?_
        refine x_calli (w := wX) (ty := tX) (pc := 13) F hK wX_in [.int (nI 0), .int (nI (k + 1))] [] (c_X0_graphJoins l G L 0 (k + 1) (by have hq_0 : G 0 0 = G 0 0 := rfl; omega) (by have hq_0 : G 0 0 = G 0 0 := rfl; omega) (by have hq_0 : G 0 0 = G 0 0 := rfl; omega) (by have hq_2 : G 2 0 = G 2 0 := rfl; omega)) (cwV 2 F.2.2.2.2 gX0_buildGatherSpread_X0_graphJoins rfl rfl rfl (by decide +kernel) ⟨Nat.le_of_ble_eq_true rfl, Nat.le_of_ble_eq_true rfl⟩) rfl rfl rfl rfl (Nat.le_of_ble_eq_true rfl) dX0_buildGatherSpread_13 ?_
        rintro _ _ ⟨rfl, rfl⟩
        refine x_ifB_ne (tgt := 22) (pc := 16) F dX0_buildGatherSpread_16 (by decide) (fun hc_16 => ?_) (fun hc_16 => ?_)
        · refine x_iinc (v := nI ((k + 1) + 1)) (lv' := [(0, .ref h), (1, .int (nI ((k + 1) + 1)))]) (pc := 22) F dX0_buildGatherSpread_22 1 rfl (nx_inc (b := 1) (k + 1) (by decide)) (by decide) [1, 0] rfl ?_
          refine x_goto (tgt := 2) (pc := 25) F dX0_buildGatherSpread_25 (by decide) ?_
          refine x_lv [0, 1] rfl ?_
          exact ih_2 (k + 1) (by omega) (allE_s hall hc_16) (by omega)
        · refine x_bipush (v := -10) (pc := 19) F dX0_buildGatherSpread_19 (by decide) ?_
          exact x_reti (w := wX) (ty := tX) (pc := 21) F hK hr hlk hQ0 dX0_buildGatherSpread_21 (⟨by rw [sg_gs, if_neg (by rw [allE_no hc_16 _ (by omega)]; decide)], by rw [sp_gs, if_neg (by rw [allE_no hc_16 _ (by omega)]; decide)]⟩)
  refine x_lv [0, 1] rfl ?_
  exact cut_2 ((G 0 0 - 0) + 1) 0 (by omega) rfl (Nat.lt_succ_self _)
set_option maxHeartbeats 4000000 in
set_option maxRecDepth 100000 in
theorem c_X0_personCount (l : Launch) (G : GS) (L : Nat → Nat) : MCi wX tX l yX0_personCount wsX0_personCount ({ frames := 0, cells := 0, slots := 0, locals := 0 }) [] (G, L) (fun r u => u = (G, L) ∧ r = nI (G 0 0)) := by
  refine x_starti (cc := cX0_personCount) (maxL := 1) (ret := (some .int)) (own := RX0) (by decide) rfl rfl (fun _ => Nat.le_of_ble_eq_true rfl) ?_
  intro p e s m args below meth c D h q cs F hK hr hlk Q0 hQ0
  refine x_lv (lv' := [(0, .ref h)]) [0] rfl ?_
  have hin : ∀ w ∈ wsX00, w ∈ wsX0_personCount := by decide +kernel
  have hm_personTotal : Cond.fieldLink RX0 9 "GossipSchedule" "personTotal" "I" ∈ wsX0_personCount := by decide +kernel
  refine x_aload_n (pc := 0) F dX0_personCount_0 0 rfl rfl ?_
  refine gX_personTotal (v := G 0 0) (pc := 1) F hK hin hm_personTotal rfl dX0_personCount_1 ?_
  exact x_reti (w := wX) (ty := tX) (pc := 4) F hK hr hlk hQ0 dX0_personCount_4 (⟨rfl, rfl⟩)
set_option maxHeartbeats 4000000 in
set_option maxRecDepth 100000 in
theorem c_X0_roundCount (l : Launch) (G : GS) (L : Nat → Nat) : MCi wX tX l yX0_roundCount wsX0_roundCount ({ frames := 0, cells := 0, slots := 0, locals := 0 }) [] (G, L) (fun r u => u = (G, L) ∧ r = nI (G 3 0)) := by
  refine x_starti (cc := cX0_roundCount) (maxL := 1) (ret := (some .int)) (own := RX0) (by decide) rfl rfl (fun _ => Nat.le_of_ble_eq_true rfl) ?_
  intro p e s m args below meth c D h q cs F hK hr hlk Q0 hQ0
  refine x_lv (lv' := [(0, .ref h)]) [0] rfl ?_
  have hin : ∀ w ∈ wsX00, w ∈ wsX0_roundCount := by decide +kernel
  have hm_roundTotal : Cond.fieldLink RX0 55 "GossipSchedule" "roundTotal" "I" ∈ wsX0_roundCount := by decide +kernel
  refine x_aload_n (pc := 0) F dX0_roundCount_0 0 rfl rfl ?_
  refine gX_roundTotal (v := G 3 0) (pc := 1) F hK hin hm_roundTotal rfl dX0_roundCount_1 ?_
  exact x_reti (w := wX) (ty := tX) (pc := 4) F hK hr hlk hQ0 dX0_roundCount_4 (⟨rfl, rfl⟩)
set_option maxHeartbeats 4000000 in
set_option maxRecDepth 100000 in
theorem c_X0_callCount (l : Launch) (G : GS) (L : Nat → Nat) : MCi wX tX l yX0_callCount wsX0_callCount ({ frames := 0, cells := 0, slots := 0, locals := 0 }) [] (G, L) (fun r u => u = (G, L) ∧ r = nI (G 4 0)) := by
  refine x_starti (cc := cX0_callCount) (maxL := 1) (ret := (some .int)) (own := RX0) (by decide) rfl rfl (fun _ => Nat.le_of_ble_eq_true rfl) ?_
  intro p e s m args below meth c D h q cs F hK hr hlk Q0 hQ0
  refine x_lv (lv' := [(0, .ref h)]) [0] rfl ?_
  have hin : ∀ w ∈ wsX00, w ∈ wsX0_callCount := by decide +kernel
  have hm_callTotal : Cond.fieldLink RX0 70 "GossipSchedule" "callTotal" "I" ∈ wsX0_callCount := by decide +kernel
  refine x_aload_n (pc := 0) F dX0_callCount_0 0 rfl rfl ?_
  refine gX_callTotal (v := G 4 0) (pc := 1) F hK hin hm_callTotal rfl dX0_callCount_1 ?_
  exact x_reti (w := wX) (ty := tX) (pc := 4) F hK hr hlk hQ0 dX0_callCount_4 (⟨rfl, rfl⟩)
set_option maxHeartbeats 4000000 in
set_option maxRecDepth 100000 in
theorem c_X0_describeCall (l : Launch) (G : GS) (L : Nat → Nat) (x : Int32) (hG : ok G) : MCi wX tX l yX0_describeCall wsX0_describeCall ({ frames := 1, cells := 0, slots := 0, locals := 21 }) [.int (x)] (G, L) (fun r u => u = (G, L) ∧ r = sp_desc G x) := by
  have hG0 := hG
  obtain ⟨b1, b2, b3, b4, b5, b6, b7, b8, b9, b10, b11⟩ := hG0
  refine x_starti (cc := cX0_describeCall) (maxL := 3) (ret := (some .int)) (own := RX0) (by decide) rfl rfl (fun _ => Nat.le_of_ble_eq_true rfl) ?_
  intro p e s m args below meth c D h q cs F hK hr hlk Q0 hQ0
  refine x_lv (lv' := [(0, .ref h), (1, .int (x))]) [0, 1] rfl ?_
  have hin : ∀ w ∈ wsX00, w ∈ wsX0_describeCall := by decide +kernel
  have hm_isOneWay : Cond.fieldLink RX0 29 "GossipSchedule" "isOneWay" "[Z" ∈ wsX0_describeCall := by decide +kernel
  have hm_roundOf : Cond.fieldLink RX0 19 "GossipSchedule" "roundOf" "[I" ∈ wsX0_describeCall := by decide +kernel
  have hm_callerOf : Cond.fieldLink RX0 23 "GossipSchedule" "callerOf" "[I" ∈ wsX0_describeCall := by decide +kernel
  have hm_calleeOf : Cond.fieldLink RX0 26 "GossipSchedule" "calleeOf" "[I" ∈ wsX0_describeCall := by decide +kernel
  refine x_aload_n (pc := 0) F dX0_describeCall_0 0 rfl rfl ?_
  refine x_iload_n (pc := 1) F dX0_describeCall_1 1 rfl rfl ?_
  refine x_calli (w := wX) (ty := tX) (pc := 2) F hK wX_in [.int (x)] [] (c_X0_callExists l G L x ((x).toInt) rfl (by omega)) (cwV 1 F.2.2.2.2 gX0_describeCall_X0_callExists rfl rfl rfl (by decide +kernel) ⟨Nat.le_of_ble_eq_true rfl, Nat.le_of_ble_eq_true rfl⟩) rfl rfl rfl rfl (Nat.le_of_ble_eq_true rfl) dX0_describeCall_2 ?_
  rintro _ _ ⟨rfl, rfl⟩
  refine x_ifB_ne (tgt := 11) (pc := 5) F dX0_describeCall_5 (by decide) (fun hc_5 => ?_) (fun hc_5 => ?_)
  · obtain ⟨ja, h_ja, rfl⟩ := nI_ofR (x := x) (n := G 4 0) (by omega) (by omega)
    have e_ja : (nI ja).toInt = (ja : Int) := nI_toInt (by omega)
    have hj := b8 ja (by omega)
    refine x_aload_n (pc := 11) F dX0_describeCall_11 0 rfl rfl ?_
    refine gX_isOneWay (pc := 12) F hK hin hm_isOneWay dX0_describeCall_12 ?_
    refine x_iload_n (pc := 15) F dX0_describeCall_15 1 rfl rfl ?_
    refine lX_isOneWay (v := G 8 ja) (pc := 16) F hK dX0_describeCall_16 (by omega) rfl ?_
    refine x_ifN_eq (tgt := 24) (pc := 17) F dX0_describeCall_17 (by decide) (by omega) (fun hc_17 => ?_) (fun hc_17 => ?_)
    · refine x_iconst (v := nI 0) (pc := 24) F dX0_describeCall_24 (by decide) ?_
      refine x_istore_n (lv' := [(0, .ref h), (1, .int (nI ja)), (2, .int (nI 0))]) (pc := 25) F dX0_describeCall_25 rfl (by decide) [1, 2, 0] rfl ?_
      refine x_sipush (v := nI 1000) (pc := 26) F dX0_describeCall_26 (by decide) ?_
      refine x_aload_n (pc := 29) F dX0_describeCall_29 0 rfl rfl ?_
      refine gX_roundOf (pc := 30) F hK hin hm_roundOf dX0_describeCall_30 ?_
      refine x_iload_n (pc := 33) F dX0_describeCall_33 1 rfl rfl ?_
      refine lX_roundOf (v := G 5 ja) (pc := 34) F hK dX0_describeCall_34 (by omega) rfl ?_
      refine x_imul (z := nI (1000 * (G 5 ja))) (pc := 35) F dX0_describeCall_35 (pk_mul 1000 (G 5 ja)) ?_
      refine x_bipush (v := nI 100) (pc := 36) F dX0_describeCall_36 (by decide) ?_
      refine x_iload_n (pc := 38) F dX0_describeCall_38 2 rfl rfl ?_
      refine x_imul (z := nI (100 * 0)) (pc := 39) F dX0_describeCall_39 (pk_mul 100 0) ?_
      refine x_iadd (z := nI ((1000 * (G 5 ja)) + (100 * 0))) (pc := 40) F dX0_describeCall_40 (nI_add (1000 * (G 5 ja)) (100 * 0)) ?_
      refine x_bipush (v := nI 10) (pc := 41) F dX0_describeCall_41 (by decide) ?_
      refine x_aload_n (pc := 43) F dX0_describeCall_43 0 rfl rfl ?_
      refine gX_callerOf (pc := 44) F hK hin hm_callerOf dX0_describeCall_44 ?_
      refine x_iload_n (pc := 47) F dX0_describeCall_47 1 rfl rfl ?_
      refine lX_callerOf (v := G 6 ja) (pc := 48) F hK dX0_describeCall_48 (by omega) rfl ?_
      refine x_imul (z := nI (10 * (G 6 ja))) (pc := 49) F dX0_describeCall_49 (pk_mul 10 (G 6 ja)) ?_
      refine x_iadd (z := nI (((1000 * (G 5 ja)) + (100 * 0)) + (10 * (G 6 ja)))) (pc := 50) F dX0_describeCall_50 (nI_add ((1000 * (G 5 ja)) + (100 * 0)) (10 * (G 6 ja))) ?_
      refine x_aload_n (pc := 51) F dX0_describeCall_51 0 rfl rfl ?_
      refine gX_calleeOf (pc := 52) F hK hin hm_calleeOf dX0_describeCall_52 ?_
      refine x_iload_n (pc := 55) F dX0_describeCall_55 1 rfl rfl ?_
      refine lX_calleeOf (v := G 7 ja) (pc := 56) F hK dX0_describeCall_56 (by omega) rfl ?_
      refine x_iadd (z := nI ((((1000 * (G 5 ja)) + (100 * 0)) + (10 * (G 6 ja))) + G 7 ja)) (pc := 57) F dX0_describeCall_57 (nI_add (((1000 * (G 5 ja)) + (100 * 0)) + (10 * (G 6 ja))) (G 7 ja)) ?_
      exact x_reti (w := wX) (ty := tX) (pc := 58) F hK hr hlk hQ0 dX0_describeCall_58 (⟨rfl, by rw [sp_desc, if_pos (by unfold inR; omega), toNat_nI (by omega), show G 8 ja = 0 by omega]⟩)
    · refine x_iconst (v := nI 1) (pc := 20) F dX0_describeCall_20 (by decide) ?_
      refine x_goto (tgt := 25) (pc := 21) F dX0_describeCall_21 (by decide) ?_
      refine x_istore_n (lv' := [(0, .ref h), (1, .int (nI ja)), (2, .int (nI 1))]) (pc := 25) F dX0_describeCall_25 rfl (by decide) [1, 2, 0] rfl ?_
      refine x_sipush (v := nI 1000) (pc := 26) F dX0_describeCall_26 (by decide) ?_
      refine x_aload_n (pc := 29) F dX0_describeCall_29 0 rfl rfl ?_
      refine gX_roundOf (pc := 30) F hK hin hm_roundOf dX0_describeCall_30 ?_
      refine x_iload_n (pc := 33) F dX0_describeCall_33 1 rfl rfl ?_
      refine lX_roundOf (v := G 5 ja) (pc := 34) F hK dX0_describeCall_34 (by omega) rfl ?_
      refine x_imul (z := nI (1000 * (G 5 ja))) (pc := 35) F dX0_describeCall_35 (pk_mul 1000 (G 5 ja)) ?_
      refine x_bipush (v := nI 100) (pc := 36) F dX0_describeCall_36 (by decide) ?_
      refine x_iload_n (pc := 38) F dX0_describeCall_38 2 rfl rfl ?_
      refine x_imul (z := nI (100 * 1)) (pc := 39) F dX0_describeCall_39 (pk_mul 100 1) ?_
      refine x_iadd (z := nI ((1000 * (G 5 ja)) + (100 * 1))) (pc := 40) F dX0_describeCall_40 (nI_add (1000 * (G 5 ja)) (100 * 1)) ?_
      refine x_bipush (v := nI 10) (pc := 41) F dX0_describeCall_41 (by decide) ?_
      refine x_aload_n (pc := 43) F dX0_describeCall_43 0 rfl rfl ?_
      refine gX_callerOf (pc := 44) F hK hin hm_callerOf dX0_describeCall_44 ?_
      refine x_iload_n (pc := 47) F dX0_describeCall_47 1 rfl rfl ?_
      refine lX_callerOf (v := G 6 ja) (pc := 48) F hK dX0_describeCall_48 (by omega) rfl ?_
      refine x_imul (z := nI (10 * (G 6 ja))) (pc := 49) F dX0_describeCall_49 (pk_mul 10 (G 6 ja)) ?_
      refine x_iadd (z := nI (((1000 * (G 5 ja)) + (100 * 1)) + (10 * (G 6 ja)))) (pc := 50) F dX0_describeCall_50 (nI_add ((1000 * (G 5 ja)) + (100 * 1)) (10 * (G 6 ja))) ?_
      refine x_aload_n (pc := 51) F dX0_describeCall_51 0 rfl rfl ?_
      refine gX_calleeOf (pc := 52) F hK hin hm_calleeOf dX0_describeCall_52 ?_
      refine x_iload_n (pc := 55) F dX0_describeCall_55 1 rfl rfl ?_
      refine lX_calleeOf (v := G 7 ja) (pc := 56) F hK dX0_describeCall_56 (by omega) rfl ?_
      refine x_iadd (z := nI ((((1000 * (G 5 ja)) + (100 * 1)) + (10 * (G 6 ja))) + G 7 ja)) (pc := 57) F dX0_describeCall_57 (nI_add (((1000 * (G 5 ja)) + (100 * 1)) + (10 * (G 6 ja))) (G 7 ja)) ?_
      exact x_reti (w := wX) (ty := tX) (pc := 58) F hK hr hlk hQ0 dX0_describeCall_58 (⟨rfl, by rw [sp_desc, if_pos (by unfold inR; omega), toNat_nI (by omega), show G 8 ja = 1 by omega]⟩)
  · refine x_bipush (v := -7) (pc := 8) F dX0_describeCall_8 (by decide) ?_
    exact x_reti (w := wX) (ty := tX) (pc := 10) F hK hr hlk hQ0 dX0_describeCall_10 (⟨rfl, by rw [sp_desc, if_neg (by unfold inR; omega)]⟩)
set_option maxHeartbeats 4000000 in
set_option maxRecDepth 100000 in
theorem c_X0_graphHasFourCycle (l : Launch) (G : GS) (L : Nat → Nat) (h8 : G 0 0 ≤ 8) (h4 : G 2 0 ≤ 4) : MCi wX tX l yX0_graphHasFourCycle wsX0_graphHasFourCycle ({ frames := 0, cells := 0, slots := 0, locals := 0 }) [] (G, L) (fun r u => u = (G, L) ∧ r = nI (bN (sqr G))) := by
  refine x_starti (cc := cX0_graphHasFourCycle) (maxL := 1) (ret := (some .boolean)) (own := RX0) (by decide) rfl rfl (fun _ => Nat.le_of_ble_eq_true rfl) ?_
  intro p e s m args below meth c D h q cs F hK hr hlk Q0 hQ0
  refine x_lv (lv' := [(0, .ref h)]) [0] rfl ?_
  have hin : ∀ w ∈ wsX00, w ∈ wsX0_graphHasFourCycle := by decide +kernel
  have hm_graphKind : Cond.fieldLink RX0 16 "GossipSchedule" "graphKind" "I" ∈ wsX0_graphHasFourCycle := by decide +kernel
  have hm_personTotal : Cond.fieldLink RX0 9 "GossipSchedule" "personTotal" "I" ∈ wsX0_graphHasFourCycle := by decide +kernel
  refine x_aload_n (pc := 0) F dX0_graphHasFourCycle_0 0 rfl rfl ?_
  refine gX_graphKind (v := G 2 0) (pc := 1) F hK hin hm_graphKind rfl dX0_graphHasFourCycle_1 ?_
  refine x_ifN_eq (tgt := 31) (pc := 4) F dX0_graphHasFourCycle_4 (by decide) (by omega) (fun hc_4 => ?_) (fun hc_4 => ?_)
  · refine x_iconst (v := nI 1) (pc := 31) F dX0_graphHasFourCycle_31 (by decide) ?_
    refine x_goto (tgt := 36) (pc := 32) F dX0_graphHasFourCycle_32 (by decide) ?_
    exact x_retz (w := wX) (ty := tX) (pc := 36) F hK hr hlk hQ0 (nar_z _ (by omega)) dX0_graphHasFourCycle_36 (⟨rfl, congrArg nI (bN_t (by omega)).symm⟩)
  · refine x_aload_n (pc := 7) F dX0_graphHasFourCycle_7 0 rfl rfl ?_
    refine gX_graphKind (v := G 2 0) (pc := 8) F hK hin hm_graphKind rfl dX0_graphHasFourCycle_8 ?_
    refine x_iconst (v := nI 4) (pc := 11) F dX0_graphHasFourCycle_11 (by decide) ?_
    refine x_icmpN_eq (tgt := 31) (pc := 12) F dX0_graphHasFourCycle_12 (by decide) (by omega) (by decide) (fun hc_12 => ?_) (fun hc_12 => ?_)
    · refine x_iconst (v := nI 1) (pc := 31) F dX0_graphHasFourCycle_31 (by decide) ?_
      refine x_goto (tgt := 36) (pc := 32) F dX0_graphHasFourCycle_32 (by decide) ?_
      exact x_retz (w := wX) (ty := tX) (pc := 36) F hK hr hlk hQ0 (nar_z _ (by omega)) dX0_graphHasFourCycle_36 (⟨rfl, congrArg nI (bN_t (by omega)).symm⟩)
    · refine x_aload_n (pc := 15) F dX0_graphHasFourCycle_15 0 rfl rfl ?_
      refine gX_graphKind (v := G 2 0) (pc := 16) F hK hin hm_graphKind rfl dX0_graphHasFourCycle_16 ?_
      refine x_iconst (v := nI 1) (pc := 19) F dX0_graphHasFourCycle_19 (by decide) ?_
      refine x_icmpN_ne (tgt := 35) (pc := 20) F dX0_graphHasFourCycle_20 (by decide) (by omega) (by decide) (fun hc_20 => ?_) (fun hc_20 => ?_)
      · refine x_iconst (v := nI 0) (pc := 35) F dX0_graphHasFourCycle_35 (by decide) ?_
        exact x_retz (w := wX) (ty := tX) (pc := 36) F hK hr hlk hQ0 (nar_z _ (by omega)) dX0_graphHasFourCycle_36 (⟨rfl, congrArg nI (bN_f (by omega)).symm⟩)
      · refine x_aload_n (pc := 23) F dX0_graphHasFourCycle_23 0 rfl rfl ?_
        refine gX_personTotal (v := G 0 0) (pc := 24) F hK hin hm_personTotal rfl dX0_graphHasFourCycle_24 ?_
        refine x_iconst (v := nI 4) (pc := 27) F dX0_graphHasFourCycle_27 (by decide) ?_
        refine x_icmpN_ne (tgt := 35) (pc := 28) F dX0_graphHasFourCycle_28 (by decide) (by omega) (by decide) (fun hc_28 => ?_) (fun hc_28 => ?_)
        · refine x_iconst (v := nI 0) (pc := 35) F dX0_graphHasFourCycle_35 (by decide) ?_
          exact x_retz (w := wX) (ty := tX) (pc := 36) F hK hr hlk hQ0 (nar_z _ (by omega)) dX0_graphHasFourCycle_36 (⟨rfl, congrArg nI (bN_f (by omega)).symm⟩)
        · refine x_iconst (v := nI 1) (pc := 31) F dX0_graphHasFourCycle_31 (by decide) ?_
          refine x_goto (tgt := 36) (pc := 32) F dX0_graphHasFourCycle_32 (by decide) ?_
          exact x_retz (w := wX) (ty := tX) (pc := 36) F hK hr hlk hQ0 (nar_z _ (by omega)) dX0_graphHasFourCycle_36 (⟨rfl, congrArg nI (bN_t (by omega)).symm⟩)
set_option maxHeartbeats 4000000 in
set_option maxRecDepth 100000 in
theorem c_X0_leastCalls (l : Launch) (G : GS) (L : Nat → Nat) (w : Nat) (hw : w < 2) (hG : ok G) : MCi wX tX l yX0_leastCalls wsX0_leastCalls ({ frames := 1, cells := 0, slots := 0, locals := 20 }) [.int (nI w)] (G, L) (fun r u => u = (G, L) ∧ r = nI (leN G w)) := by
  have hG0 := hG
  obtain ⟨b1, b2, b3, b4, b5, b6, b7, b8, b9, b10, b11⟩ := hG0
  refine x_starti (cc := cX0_leastCalls) (maxL := 2) (ret := (some .int)) (own := RX0) (by decide) rfl rfl (fun _ => Nat.le_of_ble_eq_true rfl) ?_
  intro p e s m args below meth c D h q cs F hK hr hlk Q0 hQ0
  refine x_lv (lv' := [(0, .ref h), (1, .int (nI w))]) [0, 1] rfl ?_
  have hin : ∀ w ∈ wsX00, w ∈ wsX0_leastCalls := by decide +kernel
  have hm_personTotal : Cond.fieldLink RX0 9 "GossipSchedule" "personTotal" "I" ∈ wsX0_leastCalls := by decide +kernel
  refine x_iload_n (pc := 0) F dX0_leastCalls_0 1 rfl rfl ?_
  refine x_ifN_eq (tgt := 13) (pc := 1) F dX0_leastCalls_1 (by decide) (by omega) (fun hc_1 => ?_) (fun hc_1 => ?_)
  · refine x_aload_n (pc := 13) F dX0_leastCalls_13 0 rfl rfl ?_
    refine gX_personTotal (v := G 0 0) (pc := 14) F hK hin hm_personTotal rfl dX0_leastCalls_14 ?_
    refine x_iconst (v := nI 4) (pc := 17) F dX0_leastCalls_17 (by decide) ?_
    refine x_icmpN_ge (tgt := 30) (pc := 18) F dX0_leastCalls_18 (by decide) (by omega) (by decide) (fun hc_18 => ?_) (fun hc_18 => ?_)
    · refine x_aload_n (pc := 30) F dX0_leastCalls_30 0 rfl rfl ?_
      refine x_calli (w := wX) (ty := tX) (pc := 31) F hK wX_in [] [] (c_X0_graphHasFourCycle l G L (by omega) (by omega)) (cwV 0 F.2.2.2.2 gX0_leastCalls_X0_graphHasFourCycle rfl rfl rfl (by decide +kernel) ⟨Nat.le_of_ble_eq_true rfl, Nat.le_of_ble_eq_true rfl⟩) rfl rfl rfl rfl (Nat.le_of_ble_eq_true rfl) dX0_leastCalls_31 ?_
      rintro _ _ ⟨rfl, rfl⟩
      refine x_ifB_eq (tgt := 48) (pc := 34) F dX0_leastCalls_34 (by decide) (fun hc_34 => ?_) (fun hc_34 => ?_)
      · refine x_iconst (v := nI 2) (pc := 48) F dX0_leastCalls_48 (by decide) ?_
        refine x_aload_n (pc := 49) F dX0_leastCalls_49 0 rfl rfl ?_
        refine gX_personTotal (v := G 0 0) (pc := 50) F hK hin hm_personTotal rfl dX0_leastCalls_50 ?_
        refine x_imul (z := nI (2 * (G 0 0))) (pc := 53) F dX0_leastCalls_53 (pk_mul 2 (G 0 0)) ?_
        refine x_iconst (v := nI 3) (pc := 54) F dX0_leastCalls_54 (by decide) ?_
        refine x_isub (z := nI ((2 * (G 0 0)) - 3)) (pc := 55) F dX0_leastCalls_55 (pk_sub (by omega)) ?_
        exact x_reti (w := wX) (ty := tX) (pc := 56) F hK hr hlk hQ0 dX0_leastCalls_56 (⟨rfl, congrArg nI (by unfold leN; (repeat' split) <;> omega)⟩)
      · refine x_iconst (v := nI 2) (pc := 37) F dX0_leastCalls_37 (by decide) ?_
        refine x_aload_n (pc := 38) F dX0_leastCalls_38 0 rfl rfl ?_
        refine gX_personTotal (v := G 0 0) (pc := 39) F hK hin hm_personTotal rfl dX0_leastCalls_39 ?_
        refine x_imul (z := nI (2 * (G 0 0))) (pc := 42) F dX0_leastCalls_42 (pk_mul 2 (G 0 0)) ?_
        refine x_iconst (v := nI 4) (pc := 43) F dX0_leastCalls_43 (by decide) ?_
        refine x_isub (z := nI ((2 * (G 0 0)) - 4)) (pc := 44) F dX0_leastCalls_44 (pk_sub (by omega)) ?_
        refine x_goto (tgt := 56) (pc := 45) F dX0_leastCalls_45 (by decide) ?_
        exact x_reti (w := wX) (ty := tX) (pc := 56) F hK hr hlk hQ0 dX0_leastCalls_56 (⟨rfl, congrArg nI (by unfold leN; (repeat' split) <;> omega)⟩)
    · refine x_iconst (v := nI 2) (pc := 21) F dX0_leastCalls_21 (by decide) ?_
      refine x_aload_n (pc := 22) F dX0_leastCalls_22 0 rfl rfl ?_
      refine gX_personTotal (v := G 0 0) (pc := 23) F hK hin hm_personTotal rfl dX0_leastCalls_23 ?_
      refine x_imul (z := nI (2 * (G 0 0))) (pc := 26) F dX0_leastCalls_26 (pk_mul 2 (G 0 0)) ?_
      refine x_iconst (v := nI 3) (pc := 27) F dX0_leastCalls_27 (by decide) ?_
      refine x_isub (z := nI ((2 * (G 0 0)) - 3)) (pc := 28) F dX0_leastCalls_28 (pk_sub (by omega)) ?_
      exact x_reti (w := wX) (ty := tX) (pc := 29) F hK hr hlk hQ0 dX0_leastCalls_29 (⟨rfl, congrArg nI (by unfold leN; (repeat' split) <;> omega)⟩)
  · refine x_iconst (v := nI 2) (pc := 4) F dX0_leastCalls_4 (by decide) ?_
    refine x_aload_n (pc := 5) F dX0_leastCalls_5 0 rfl rfl ?_
    refine gX_personTotal (v := G 0 0) (pc := 6) F hK hin hm_personTotal rfl dX0_leastCalls_6 ?_
    refine x_imul (z := nI (2 * (G 0 0))) (pc := 9) F dX0_leastCalls_9 (pk_mul 2 (G 0 0)) ?_
    refine x_iconst (v := nI 2) (pc := 10) F dX0_leastCalls_10 (by decide) ?_
    refine x_isub (z := nI ((2 * (G 0 0)) - 2)) (pc := 11) F dX0_leastCalls_11 (pk_sub (by omega)) ?_
    exact x_reti (w := wX) (ty := tX) (pc := 12) F hK hr hlk hQ0 dX0_leastCalls_12 (⟨rfl, congrArg nI (by unfold leN; (repeat' split) <;> omega)⟩)
