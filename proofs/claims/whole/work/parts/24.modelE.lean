set_option maxHeartbeats 4000000 in
set_option maxRecDepth 100000 in
theorem c_Jxf58ca_isNaN_12338 (l : Launch) (v : UInt32) (hv : Op.cmpValue (FP.fcmp v v) .l = 0) : MSi l yJxf58ca_isNaN_12338 wsJxf58ca_isNaN_12338 ({ frames := 0, cells := 0, slots := 0, locals := 0 }) [.float (v)] (fun r => r = nI 0) := by
  refine x_sstartiF (cc := cJxf58ca_isNaN_12338) (maxL := 1) (ret := (some .boolean)) (own := RJxf58ca) (by decide +kernel) rfl rfl (Nat.le_of_ble_eq_true rfl) ?_
  intro p e s m args below meth c D F hr hlk Q0 hQ0
  refine x_lv (lv' := [(0, .float (v))]) [0] rfl ?_
  refine x_fload_n (pc := 0) F dJxf58ca_isNaN_12338_0 0 rfl rfl ?_
  refine x_fload_n (pc := 1) F dJxf58ca_isNaN_12338_1 0 rfl rfl ?_
  refine x_fcmp (pc := 2) F dJxf58ca_isNaN_12338_2 hv ?_
  refine x_ifN_eq (tgt := 10) (pc := 3) F dJxf58ca_isNaN_12338_3 (by decide) (by decide) (fun _ => ?_) (fun hz => absurd hz (by decide))
  refine x_iconst (v := nI 0) (pc := 10) F dJxf58ca_isNaN_12338_10 (by decide) ?_
  exact x_sretz (pc := 11) F hr hlk hQ0 (nar_z _ (by omega)) dJxf58ca_isNaN_12338_11 (rfl)
set_option maxHeartbeats 4000000 in
set_option maxRecDepth 100000 in
theorem c_Jxf58ca_floatToIntBits_5c35a (l : Launch) (v : UInt32) (hv : Op.cmpValue (FP.fcmp v v) .l = 0) : MSi l yJxf58ca_floatToIntBits_5c35a wsJxf58ca_floatToIntBits_5c35a ({ frames := 1, cells := 0, slots := 0, locals := 23 }) [.float (v)] (fun r => r = v.toInt32) := by
  refine x_sstartiF (cc := cJxf58ca_floatToIntBits_5c35a) (maxL := 1) (ret := (some .int)) (own := RJxf58ca) (by decide +kernel) rfl rfl (Nat.le_of_ble_eq_true rfl) ?_
  intro p e s m args below meth c D F hr hlk Q0 hQ0
  refine x_lv (lv' := [(0, .float (v))]) [0] rfl ?_
  have hk_77 : Cond.constant RJxf58ca 77 (2143289344) ∈ wsJxf58ca_floatToIntBits_5c35a := by decide +kernel
  refine x_fload_n (pc := 0) F dJxf58ca_floatToIntBits_5c35a_0 0 rfl rfl ?_
  refine x_scalli (pc := 1) F [.float (v)] [] (c_Jxf58ca_isNaN_12338 l v hv) (va_cwS 1 F.2.2.2.2 gJxf58ca_floatToIntBits_5c35a_Jxf58ca_isNaN_12338 rfl rfl rfl (by decide +kernel) ⟨Nat.le_of_ble_eq_true rfl, Nat.le_of_ble_eq_true rfl⟩) rfl rfl (Nat.le_of_ble_eq_true rfl) dJxf58ca_floatToIntBits_5c35a_1 ?_
  rintro _ rfl
  refine x_ifN_ne (tgt := 12) (pc := 4) F dJxf58ca_floatToIntBits_5c35a_4 (by decide) (by decide) (fun hz => absurd hz (by decide)) (fun _ => ?_)
  refine x_fload_n (pc := 7) F dJxf58ca_floatToIntBits_5c35a_7 0 rfl rfl ?_
  refine x_rawF (pc := 8) F (by decide +kernel) (by decide +kernel) (by decide +kernel) (by decide +kernel) (Nat.le_of_ble_eq_true rfl) (Nat.le_of_ble_eq_true rfl) dJxf58ca_floatToIntBits_5c35a_8 ?_
  exact x_sreti (pc := 11) F hr hlk hQ0 dJxf58ca_floatToIntBits_5c35a_11 (rfl)
set_option maxHeartbeats 4000000 in
set_option maxRecDepth 100000 in
theorem c_X1_averageNow (l : Launch) (G : GS) (K : Nat → Nat) (hs : Int64) (mm : Nat) (hm : mm ≤ 16) (hG : ok G) : MCi wM tM l yX1_averageNow wsX1_averageNow ({ frames := 2, cells := 0, slots := 0, locals := 47 }) [.int (nI mm)] (G, K, hs) (fun r u => ∃ K', u = (G, K', hs) ∧ r = avR G mm) := by
  have hG0 := hG
  obtain ⟨b1, b2, b3, b4, b5, b6, b7, b8, b9, b10, b11⟩ := hG0
  refine x_starti (cc := cX1_averageNow) (maxL := 5) (ret := (some .int)) (own := RX1) (by decide) rfl rfl (fun _ => Nat.le_of_ble_eq_true rfl) ?_
  intro p e s m args below meth c D h q cs F hK hr hlk Q0 hQ0
  refine x_lv (lv' := [(0, .ref h), (1, .int (nI mm))]) [0, 1] rfl ?_
  have hin : ∀ w ∈ wsX10, w ∈ wsX1_averageNow := by decide +kernel
  have hm_persons : Cond.fieldLink RX1 7 "GossipScheduleModel" "persons" "I" ∈ wsX1_averageNow := by decide +kernel
  have hm_known : Cond.fieldLink RX1 30 "GossipScheduleModel" "known" "[I" ∈ wsX1_averageNow := by decide +kernel
  refine x_aload_n (pc := 0) F dX1_averageNow_0 0 rfl rfl ?_
  refine x_iload_n (pc := 1) F dX1_averageNow_1 1 rfl rfl ?_
  refine x_callv (w := wM) (ty := tM) (pc := 2) F hK wM_in [.int (nI mm)] [] (c_X1_afterRounds l G K hs mm (by omega) hG) (cwV 1 F.2.2.2.2 gX1_averageNow_X1_afterRounds rfl rfl rfl (by decide +kernel) ⟨Nat.le_of_ble_eq_true rfl, Nat.le_of_ble_eq_true rfl⟩) rfl rfl rfl rfl (Nat.le_of_ble_eq_true rfl) dX1_averageNow_2 ?_
  rintro _ rfl
  have hKb := krb_c hG (rdF G mm) K (c := G 4 0) (Nat.le_refl _)
  refine x_iconst (v := nI 0) (pc := 5) F dX1_averageNow_5 (by decide) ?_
  refine x_istore_n (lv' := [(0, .ref h), (1, .int (nI mm)), (2, .int (nI 0))]) (pc := 6) F dX1_averageNow_6 rfl (by decide) [1, 2, 0] rfl ?_
  refine x_iconst (v := nI 0) (pc := 7) F dX1_averageNow_7 (by decide) ?_
  refine x_istore_n (lv' := [(0, .ref h), (1, .int (nI mm)), (2, .int (nI 0)), (3, .int (nI 0))]) (pc := 8) F dX1_averageNow_8 rfl (by decide) [1, 2, 3, 0] rfl ?_
  have cut_9 : ∀ (fu : Nat) (pp : Nat) (sm : Nat), (pp ≤ G 0 0) → (sm = sumP (krS G (rdF G mm) (kb K) (G 4 0)) pp) → (G 0 0 - pp) < fu → V p l e ({ frames := 2, cells := 0, slots := 0, locals := 47 }) s m args below meth c 5 0 0 Q0 (IC wM D h q cs s (G, krS G (rdF G mm) (kb K) (G 4 0), hs)) 9 [(0, .ref h), (1, .int (nI mm)), (2, .int (nI sm)), (3, .int (nI pp))] [] := by
    intro fu
    induction fu with
    | zero => intro pp sm hpp hsm hfu; exact absurd hfu (Nat.not_lt_zero _)
    | succ fu ih_9 =>
      intro pp sm hpp hsm hfu
      refine x_iload_n (pc := 9) F dX1_averageNow_9 3 rfl rfl ?_
      refine x_aload_n (pc := 10) F dX1_averageNow_10 0 rfl rfl ?_
      refine gM_persons (v := G 0 0) (pc := 11) F hK hin hm_persons rfl dX1_averageNow_11 ?_
      refine x_icmpN_ge (tgt := 53) (pc := 14) F dX1_averageNow_14 (by decide) (by omega) (by omega) (fun hc_14 => ?_) (fun hc_14 => ?_)
      · have hsum : sm = sumP (kr G (rdF G mm) (G 4 0)) (G 0 0) := by
          rw [hsm, show pp = G 0 0 by omega]
          exact sumP_cong _ (fun p hp => krb hG _ K p (by omega))
        have hks := kr_sum hG (rdF G mm)
        rw [← hsum] at hks
        have hav := av_ok b1 b2 hks.1 hks.2
        refine x_iload_n (pc := 53) F dX1_averageNow_53 2 rfl rfl ?_
        refine x_i2f (pc := 54) F dX1_averageNow_54 rfl ?_
        refine x_aload_n (pc := 55) F dX1_averageNow_55 0 rfl rfl ?_
        refine gM_persons (v := G 0 0) (pc := 56) F hK hin hm_persons rfl dX1_averageNow_56 ?_
        refine x_i2f (pc := 59) F dX1_averageNow_59 rfl ?_
        refine x_fdiv (pc := 60) F dX1_averageNow_60 rfl hav.1 ?_
        refine x_scalli (pc := 61) F [.float (avF (G 0 0) sm)] [] (c_Jxf58ca_floatToIntBits_5c35a l (avF (G 0 0) sm) hav.2.1) (va_cwS 1 F.2.2.2.2 gX1_averageNow_Jxf58ca_floatToIntBits_5c35a rfl rfl rfl (by decide +kernel) ⟨Nat.le_of_ble_eq_true rfl, Nat.le_of_ble_eq_true rfl⟩) rfl rfl (Nat.le_of_ble_eq_true rfl) dX1_averageNow_61 ?_
        rintro _ rfl
        exact x_reti (w := wM) (ty := tM) (pc := 64) F hK hr hlk hQ0 dX1_averageNow_64 (⟨_, rfl, by rw [hsum]; rfl⟩)
      · refine x_iconst (v := nI 0) (pc := 17) F dX1_averageNow_17 (by decide) ?_
        refine x_istore (lv' := [(0, .ref h), (1, .int (nI mm)), (2, .int (nI sm)), (3, .int (nI pp)), (4, .int (nI 0))]) (pc := 18) F dX1_averageNow_18 (by decide) [1, 2, 3, 4, 0] rfl ?_
        have cut_20 : ∀ (fu : Nat) (i : Nat) (si : Nat), (i ≤ 8) → (si = sumP (krS G (rdF G mm) (kb K) (G 4 0)) pp + popN ((krS G (rdF G mm) (kb K) (G 4 0)) pp) i) → (8 - i) < fu → V p l e ({ frames := 2, cells := 0, slots := 0, locals := 47 }) s m args below meth c 5 0 0 Q0 (IC wM D h q cs s (G, krS G (rdF G mm) (kb K) (G 4 0), hs)) 20 [(0, .ref h), (1, .int (nI mm)), (2, .int (nI si)), (3, .int (nI pp)), (4, .int (nI i))] [] := by
          intro fu
          induction fu with
          | zero => intro i si hi hsi hfu; exact absurd hfu (Nat.not_lt_zero _)
          | succ fu ih_20 =>
            intro i si hi hsi hfu
            refine x_iload (pc := 20) F dX1_averageNow_20 4 rfl ?_
            refine x_bipush (v := nI 8) (pc := 22) F dX1_averageNow_22 (by decide) ?_
            refine x_icmpN_ge (tgt := 47) (pc := 24) F dX1_averageNow_24 (by decide) (by omega) (by decide) (fun hc_24 => ?_) (fun hc_24 => ?_)
            · refine x_iinc (v := nI (pp + 1)) (lv' := [(0, .ref h), (1, .int (nI mm)), (2, .int (nI si)), (3, .int (nI (pp + 1))), (4, .int (nI i))]) (pc := 47) F dX1_averageNow_47 3 rfl (nx_inc (b := 1) pp (by decide)) (by decide) [1, 2, 3, 0, 4] rfl ?_
              refine x_goto (tgt := 9) (pc := 50) F dX1_averageNow_50 (by decide) ?_
              refine x_lv [0, 1, 2, 3] rfl ?_
              exact ih_9 (pp + 1) si (by omega) (by rw [hsi, show i = 8 by omega]; rfl) (by omega)
            · have hkp := hKb pp (by omega)
              refine x_iload_n (pc := 27) F dX1_averageNow_27 2 rfl rfl ?_
              refine x_aload_n (pc := 28) F dX1_averageNow_28 0 rfl rfl ?_
              refine gM_known (pc := 29) F hK hin hm_known dX1_averageNow_29 ?_
              refine x_iload_n (pc := 32) F dX1_averageNow_32 3 rfl rfl ?_
              refine lM_known (v := (krS G (rdF G mm) (kb K) (G 4 0)) pp) (pc := 33) F hK dX1_averageNow_33 (by omega) rfl ?_
              refine x_iload (pc := 34) F dX1_averageNow_34 4 rfl ?_
              refine x_ishr (z := nI (((krS G (rdF G mm) (kb K) (G 4 0)) pp) / 2 ^ i)) (pc := 36) F dX1_averageNow_36 (nx_shr (by omega) (by omega)) ?_
              refine x_iconst (v := nI 1) (pc := 37) F dX1_averageNow_37 (by decide) ?_
              refine x_iand (z := nI ((((krS G (rdF G mm) (kb K) (G 4 0)) pp) / 2 ^ i) &&& 1)) (pc := 38) F dX1_averageNow_38 (nx_and (((krS G (rdF G mm) (kb K) (G 4 0)) pp) / 2 ^ i) 1) ?_
              refine x_iadd (z := nI (si + ((((krS G (rdF G mm) (kb K) (G 4 0)) pp) / 2 ^ i) &&& 1))) (pc := 39) F dX1_averageNow_39 (nI_add si ((((krS G (rdF G mm) (kb K) (G 4 0)) pp) / 2 ^ i) &&& 1)) ?_
              refine x_istore_n (lv' := [(0, .ref h), (1, .int (nI mm)), (2, .int (nI (si + ((((krS G (rdF G mm) (kb K) (G 4 0)) pp) / 2 ^ i) &&& 1)))), (3, .int (nI pp)), (4, .int (nI i))]) (pc := 40) F dX1_averageNow_40 rfl (by decide) [1, 2, 0, 3, 4] rfl ?_
              refine x_iinc (v := nI (i + 1)) (lv' := [(0, .ref h), (1, .int (nI mm)), (2, .int (nI (si + ((((krS G (rdF G mm) (kb K) (G 4 0)) pp) / 2 ^ i) &&& 1)))), (3, .int (nI pp)), (4, .int (nI (i + 1)))]) (pc := 41) F dX1_averageNow_41 4 rfl (nx_inc (b := 1) i (by decide)) (by decide) [1, 2, 3, 4, 0] rfl ?_
              refine x_goto (tgt := 20) (pc := 44) F dX1_averageNow_44 (by decide) ?_
              refine x_lv [0, 1, 2, 3, 4] rfl ?_
              exact ih_20 (i + 1) (si + ((((krS G (rdF G mm) (kb K) (G 4 0)) pp) / 2 ^ i) &&& 1)) (by omega) (by rw [hsi, Nat.and_one_is_mod, Nat.add_assoc]; rfl) (by omega)
        refine x_lv [0, 1, 2, 3, 4] rfl ?_
        exact cut_20 ((8 - 0) + 1) 0 sm (Nat.zero_le _) hsm (Nat.lt_succ_self _)
  refine x_lv [0, 1, 2, 3] rfl ?_
  exact cut_9 ((G 0 0 - 0) + 1) 0 0 (Nat.zero_le _) rfl (Nat.lt_succ_self _)
set_option maxHeartbeats 4000000 in
set_option maxRecDepth 100000 in
theorem c_X1_averageKnowledge (l : Launch) (G : GS) (K : Nat → Nat) (hs : Int64) (x : Int32) (hG : ok G) : MCi wM tM l yX1_averageKnowledge wsX1_averageKnowledge ({ frames := 3, cells := 0, slots := 0, locals := 71 }) [.int (x)] (G, K, hs) (fun r u => ∃ K', u = (G, K', hs) ∧ r = sp_avg G x) := by
  have hG0 := hG
  obtain ⟨b1, b2, b3, b4, b5, b6, b7, b8, b9, b10, b11⟩ := hG0
  refine x_starti (cc := cX1_averageKnowledge) (maxL := 2) (ret := (some .int)) (own := RX1) (by decide) rfl rfl (fun _ => Nat.le_of_ble_eq_true rfl) ?_
  intro p e s m args below meth c D h q cs F hK hr hlk Q0 hQ0
  refine x_lv (lv' := [(0, .ref h), (1, .int (x))]) [0, 1] rfl ?_
  have hin : ∀ w ∈ wsX10, w ∈ wsX1_averageKnowledge := by decide +kernel
  have hm_rounds : Cond.fieldLink RX1 43 "GossipScheduleModel" "rounds" "I" ∈ wsX1_averageKnowledge := by decide +kernel
  refine x_iload_n (pc := 0) F dX1_averageKnowledge_0 1 rfl rfl ?_
  refine x_iconst (v := nI 0) (pc := 1) F dX1_averageKnowledge_1 (by decide) ?_
  refine x_aload_n (pc := 2) F dX1_averageKnowledge_2 0 rfl rfl ?_
  refine gM_rounds (v := G 3 0) (pc := 3) F hK hin hm_rounds rfl dX1_averageKnowledge_3 ?_
  refine x_scalli (pc := 6) F [.int (x), .int (nI 0), .int (nI (G 3 0))] [] (c_X1_within l x (nI 0) (nI (G 3 0)) ((x).toInt) (((0 : Nat) : Int)) (((G 3 0 : Nat) : Int)) rfl (nI_toInt (by omega)) (nI_toInt (by omega))) (va_cwS 3 F.2.2.2.2 gX1_averageKnowledge_X1_within rfl rfl rfl (by decide +kernel) ⟨Nat.le_of_ble_eq_true rfl, Nat.le_of_ble_eq_true rfl⟩) rfl rfl (Nat.le_of_ble_eq_true rfl) dX1_averageKnowledge_6 ?_
  rintro _ rfl
  refine x_ifB_eq (tgt := 20) (pc := 9) F dX1_averageKnowledge_9 (by decide) (fun hc_9 => ?_) (fun hc_9 => ?_)
  · refine x_bipush (v := -5) (pc := 20) F dX1_averageKnowledge_20 (by decide) ?_
    exact x_reti (w := wM) (ty := tM) (pc := 22) F hK hr hlk hQ0 dX1_averageKnowledge_22 (⟨K, rfl, by rw [sp_avg, if_neg (by omega)]⟩)
  · obtain ⟨ja, h_ja, rfl⟩ := nI_ofR (x := x) (n := G 3 0 + 1) (by omega) (by omega)
    have e_ja : (nI ja).toInt = (ja : Int) := nI_toInt (by omega)
    refine x_aload_n (pc := 12) F dX1_averageKnowledge_12 0 rfl rfl ?_
    refine x_iload_n (pc := 13) F dX1_averageKnowledge_13 1 rfl rfl ?_
    refine x_calli (w := wM) (ty := tM) (pc := 14) F hK wM_in [.int (nI ja)] [] (c_X1_averageNow l G K hs ja (by omega) hG) (cwV 1 F.2.2.2.2 gX1_averageKnowledge_X1_averageNow rfl rfl rfl (by decide +kernel) ⟨Nat.le_of_ble_eq_true rfl, Nat.le_of_ble_eq_true rfl⟩) rfl rfl rfl rfl (Nat.le_of_ble_eq_true rfl) dX1_averageKnowledge_14 ?_
    rintro _ _ ⟨K2, rfl, rfl⟩
    refine x_goto (tgt := 22) (pc := 17) F dX1_averageKnowledge_17 (by decide) ?_
    exact x_reti (w := wM) (ty := tM) (pc := 22) F hK hr hlk hQ0 dX1_averageKnowledge_22 (⟨K2, rfl, by rw [sp_avg, if_pos (by omega), toNat_nI (by omega)]⟩)
