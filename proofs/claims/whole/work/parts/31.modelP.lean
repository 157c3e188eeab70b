set_option maxHeartbeats 4000000 in
set_option maxRecDepth 100000 in
theorem c_Jxe99ae_isNaN_b9ae7 (l : Launch) (v : UInt64) (hv : Op.cmpValue (FP.dcmp v v) .l = 0) : MSi l yJxe99ae_isNaN_b9ae7 wsJxe99ae_isNaN_b9ae7 ({ frames := 0, cells := 0, slots := 0, locals := 0 }) [.double (v)] (fun r => r = nI 0) := by
  refine x_sstartiF (cc := cJxe99ae_isNaN_b9ae7) (maxL := 2) (ret := (some .boolean)) (own := RJxe99ae) (by decide +kernel) rfl rfl (Nat.le_of_ble_eq_true rfl) ?_
  intro p e s m args below meth c D F hr hlk Q0 hQ0
  refine x_lv (lv' := [(0, .double (v))]) [0] rfl ?_
  refine x_dload_n (pc := 0) F dJxe99ae_isNaN_b9ae7_0 0 rfl rfl ?_
  refine x_dload_n (pc := 1) F dJxe99ae_isNaN_b9ae7_1 0 rfl rfl ?_
  refine x_dcmp (pc := 2) F dJxe99ae_isNaN_b9ae7_2 hv ?_
  refine x_ifN_eq (tgt := 10) (pc := 3) F dJxe99ae_isNaN_b9ae7_3 (by decide) (by decide) (fun _ => ?_) (fun hz => absurd hz (by decide))
  refine x_iconst (v := nI 0) (pc := 10) F dJxe99ae_isNaN_b9ae7_10 (by decide) ?_
  exact x_sretz (pc := 11) F hr hlk hQ0 (nar_z _ (by omega)) dJxe99ae_isNaN_b9ae7_11 (rfl)
set_option maxHeartbeats 4000000 in
set_option maxRecDepth 100000 in
theorem c_Jxe99ae_doubleToLongBits_ccdee (l : Launch) (v : UInt64) (hv : Op.cmpValue (FP.dcmp v v) .l = 0) : MSl l yJxe99ae_doubleToLongBits_ccdee wsJxe99ae_doubleToLongBits_ccdee ({ frames := 1, cells := 0, slots := 0, locals := 23 }) [.double (v)] (fun r => r = v.toInt64) := by
  refine x_sstartlF (cc := cJxe99ae_doubleToLongBits_ccdee) (maxL := 2) (ret := (some .long)) (own := RJxe99ae) (by decide +kernel) rfl rfl (Nat.le_of_ble_eq_true rfl) ?_
  intro p e s m args below meth c D F hr hlk Q0 hQ0
  refine x_lv (lv' := [(0, .double (v))]) [0] rfl ?_
  have hk_137 : Cond.constantLong RJxe99ae 137 (9221120237041090560) ∈ wsJxe99ae_doubleToLongBits_ccdee := by decide +kernel
  refine x_dload_n (pc := 0) F dJxe99ae_doubleToLongBits_ccdee_0 0 rfl rfl ?_
  refine x_scalli (pc := 1) F [.double (v)] [] (c_Jxe99ae_isNaN_b9ae7 l v hv) (va_cwS 1 F.2.2.2.2 gJxe99ae_doubleToLongBits_ccdee_Jxe99ae_isNaN_b9ae7 rfl rfl rfl (by decide +kernel) ⟨Nat.le_of_ble_eq_true rfl, Nat.le_of_ble_eq_true rfl⟩) rfl rfl (Nat.le_of_ble_eq_true rfl) dJxe99ae_doubleToLongBits_ccdee_1 ?_
  rintro _ rfl
  refine x_ifN_ne (tgt := 12) (pc := 4) F dJxe99ae_doubleToLongBits_ccdee_4 (by decide) (by decide) (fun hz => absurd hz (by decide)) (fun _ => ?_)
  refine x_dload_n (pc := 7) F dJxe99ae_doubleToLongBits_ccdee_7 0 rfl rfl ?_
  refine x_rawD (pc := 8) F (by decide +kernel) (by decide +kernel) (by decide +kernel) (by decide +kernel) (Nat.le_of_ble_eq_true rfl) (Nat.le_of_ble_eq_true rfl) dJxe99ae_doubleToLongBits_ccdee_8 ?_
  exact x_sretl (pc := 11) F hr hlk hQ0 dJxe99ae_doubleToLongBits_ccdee_11 (rfl)
set_option maxHeartbeats 4000000 in
set_option maxRecDepth 100000 in
theorem c_X1_probabilityNow (l : Launch) (G : GS) (K : Nat → Nat) (hs : Int64) (ja : Nat) (hja : ja ≤ 100) (hC : G 4 0 ≤ 12) (hG : ok G) : MCl wM tM l yX1_probabilityNow wsX1_probabilityNow ({ frames := 2, cells := 0, slots := 0, locals := 47 }) [.int (nI ja)] (G, K, hs) (fun r u => ∃ K', u = (G, K', hs) ∧ r = (prF G ja (2 ^ G 4 0)).toInt64) := by
  have hG0 := hG
  obtain ⟨b1, b2, b3, b4, b5, b6, b7, b8, b9, b10, b11⟩ := hG0
  have hp12 := pow_12 hC
  refine x_startl (cc := cX1_probabilityNow) (maxL := 10) (ret := (some .long)) (own := RX1) (by decide) rfl rfl (fun _ => Nat.le_of_ble_eq_true rfl) ?_
  intro p e s m args below meth c D h q cs F hK hr hlk Q0 hQ0
  refine x_lv (lv' := [(0, .ref h), (1, .int (nI ja))]) [0, 1] rfl ?_
  have hin : ∀ w ∈ wsX10, w ∈ wsX1_probabilityNow := by decide +kernel
  have hm_calls : Cond.fieldLink RX1 46 "GossipScheduleModel" "calls" "I" ∈ wsX1_probabilityNow := by decide +kernel
  have hk_151 : Cond.constantDouble RX1 151 (4636737291354636288) ∈ wsX1_probabilityNow := by decide +kernel
  refine x_iload_n (pc := 0) F dX1_probabilityNow_0 1 rfl rfl ?_
  refine x_i2d (pc := 1) F dX1_probabilityNow_1 rfl ?_
  refine x_ldc2d (pc := 2) F dX1_probabilityNow_2 hk_151 ?_
  refine x_ddiv (pc := 5) F dX1_probabilityNow_5 rfl (fl_p hja) ?_
  refine x_dstore_n (lv' := [(0, .ref h), (1, .int (nI ja)), (2, .double (pD ja))]) (pc := 6) F dX1_probabilityNow_6 rfl (by decide) [1, 2, 0] rfl ?_
  refine x_dconst0 (pc := 7) F dX1_probabilityNow_7 ?_
  refine x_dstore (lv' := [(0, .ref h), (1, .int (nI ja)), (2, .double (pD ja)), (4, .double (FP.dconst0))]) (pc := 8) F dX1_probabilityNow_8 (by decide) [1, 2, 3, 0] rfl ?_
  refine x_iconst (v := nI 0) (pc := 10) F dX1_probabilityNow_10 (by decide) ?_
  refine x_istore (lv' := [(0, .ref h), (1, .int (nI ja)), (2, .double (pD ja)), (4, .double (FP.dconst0)), (6, .int (nI 0))]) (pc := 11) F dX1_probabilityNow_11 (by decide) [1, 2, 3, 4, 0] rfl ?_
  have cut_13 : ∀ (fu : Nat) (k : Nat) (K1 : Nat → Nat), (k ≤ 1 * 2 ^ G 4 0) → (1 * 2 ^ G 4 0 - k) < fu → V p l e ({ frames := 2, cells := 0, slots := 0, locals := 47 }) s m args below meth c 10 0 0 Q0 (IC wM D h q cs s (G, K1, hs)) 13 [(0, .ref h), (1, .int (nI ja)), (2, .double (pD ja)), (4, .double (prF G ja k)), (6, .int (nI k))] [] := by
    intro fu
    induction fu with
    | zero => intro k K1 hk hfu; exact absurd hfu (Nat.not_lt_zero _)
    | succ fu ih_13 =>
      intro k K1 hk hfu
      refine x_iload (pc := 13) F dX1_probabilityNow_13 4 rfl ?_
      refine x_iconst (v := nI 1) (pc := 15) F dX1_probabilityNow_15 (by decide) ?_
      refine x_aload_n (pc := 16) F dX1_probabilityNow_16 0 rfl rfl ?_
      refine gM_calls (v := G 4 0) (pc := 17) F hK hin hm_calls rfl dX1_probabilityNow_17 ?_
      refine x_ishl (z := nI (1 * 2 ^ (G 4 0))) (pc := 20) F dX1_probabilityNow_20 (nx_shl (by omega) (two_12 (by omega))) ?_
      refine x_icmpN_ge (tgt := 90) (pc := 21) F dX1_probabilityNow_21 (by decide) (by omega) (by omega) (fun hc_21 => ?_) (fun hc_21 => ?_)
      · obtain rfl : k = 2 ^ G 4 0 := by omega
        have hgd := gD_eq (fl_good (G := G) (k := ja) (by omega) (by omega))
        refine x_dload (pc := 90) F dX1_probabilityNow_90 3 rfl ?_
        refine x_scalll (pc := 92) F [.double (prF G ja (2 ^ G 4 0))] [] (c_Jxe99ae_doubleToLongBits_ccdee l (prF G ja (2 ^ G 4 0)) hgd) (va_cwS 1 F.2.2.2.2 gX1_probabilityNow_Jxe99ae_doubleToLongBits_ccdee rfl rfl rfl (by decide +kernel) ⟨Nat.le_of_ble_eq_true rfl, Nat.le_of_ble_eq_true rfl⟩) rfl rfl (Nat.le_of_ble_eq_true rfl) dX1_probabilityNow_92 ?_
        rintro _ rfl
        exact x_retl (w := wM) (ty := tM) (pc := 95) F hK hr hlk hQ0 dX1_probabilityNow_95 (⟨K1, rfl, rfl⟩)
      · refine x_aload_n (pc := 24) F dX1_probabilityNow_24 0 rfl rfl ?_
        refine x_iload (pc := 25) F dX1_probabilityNow_25 4 rfl ?_
        refine x_calli (w := wM) (ty := tM) (pc := 27) F hK wM_in [.int (nI k)] [] (c_X1_suffices l G K1 hs k (by omega) hG) (cwV 1 F.2.2.2.2 gX1_probabilityNow_X1_suffices rfl rfl rfl (by decide +kernel) ⟨Nat.le_of_ble_eq_true rfl, Nat.le_of_ble_eq_true rfl⟩) rfl rfl rfl rfl (Nat.le_of_ble_eq_true rfl) dX1_probabilityNow_27 ?_
        rintro _ _ ⟨K6, rfl, rfl⟩
        refine x_ifB_eq (tgt := 84) (pc := 30) F dX1_probabilityNow_30 (by decide) (fun hc_30 => ?_) (fun hc_30 => ?_)
        · rw [show prF G ja k = prF G ja (k + 1) from (prF_f hc_30).symm]
          refine x_iinc (v := nI (k + 1)) (lv' := [(0, .ref h), (1, .int (nI ja)), (2, .double (pD ja)), (4, .double (prF G ja (k + 1))), (6, .int (nI (k + 1)))]) (pc := 84) F dX1_probabilityNow_84 4 rfl (nx_inc (b := 1) k (by decide)) (by decide) [1, 2, 3, 4, 0] rfl ?_
          refine x_goto (tgt := 13) (pc := 87) F dX1_probabilityNow_87 (by decide) ?_
          refine x_lv [0, 1, 2, 3, 4] rfl ?_
          exact ih_13 (k + 1) K6 (by omega) (by omega)
        · refine x_dconst1 (pc := 33) F dX1_probabilityNow_33 ?_
          refine x_dstore (lv' := [(0, .ref h), (1, .int (nI ja)), (2, .double (pD ja)), (4, .double (prF G ja k)), (6, .int (nI k)), (7, .double (FP.dconst1))]) (pc := 34) F dX1_probabilityNow_34 (by decide) [1, 2, 3, 4, 5, 0] rfl ?_
          refine x_iconst (v := nI 0) (pc := 36) F dX1_probabilityNow_36 (by decide) ?_
          refine x_istore (lv' := [(0, .ref h), (1, .int (nI ja)), (2, .double (pD ja)), (4, .double (prF G ja k)), (6, .int (nI k)), (7, .double (FP.dconst1)), (9, .int (nI 0))]) (pc := 37) F dX1_probabilityNow_37 (by decide) [1, 2, 3, 4, 5, 6, 0] rfl ?_
          have cut_39 : ∀ (fu : Nat) (i : Nat), (i ≤ G 4 0) → (G 4 0 - i) < fu → V p l e ({ frames := 2, cells := 0, slots := 0, locals := 47 }) s m args below meth c 10 0 0 Q0 (IC wM D h q cs s (G, K6, hs)) 39 [(0, .ref h), (1, .int (nI ja)), (2, .double (pD ja)), (4, .double (prF G ja k)), (6, .int (nI k)), (7, .double (chD (pD ja) (qD ja) k i)), (9, .int (nI i))] [] := by
            intro fu
            induction fu with
            | zero => intro i hi hfu; exact absurd hfu (Nat.not_lt_zero _)
            | succ fu ih_39 =>
              intro i hi hfu
              refine x_iload (pc := 39) F dX1_probabilityNow_39 6 rfl ?_
              refine x_aload_n (pc := 41) F dX1_probabilityNow_41 0 rfl rfl ?_
              refine gM_calls (v := G 4 0) (pc := 42) F hK hin hm_calls rfl dX1_probabilityNow_42 ?_
              refine x_icmpN_ge (tgt := 77) (pc := 45) F dX1_probabilityNow_45 (by decide) (by omega) (by omega) (fun hc_45 => ?_) (fun hc_45 => ?_)
              · rw [show i = G 4 0 by omega]
                refine x_dload (pc := 77) F dX1_probabilityNow_77 3 rfl ?_
                refine x_dload (pc := 79) F dX1_probabilityNow_79 5 rfl ?_
                refine x_dadd (pc := 81) F dX1_probabilityNow_81 (prF_t hc_30) (fl_pr hja hC (by omega)) ?_
                refine x_dstore (lv' := [(0, .ref h), (1, .int (nI ja)), (2, .double (pD ja)), (4, .double (prF G ja (k + 1))), (6, .int (nI k)), (7, .double (chD (pD ja) (qD ja) k (G 4 0))), (9, .int (nI (G 4 0)))]) (pc := 82) F dX1_probabilityNow_82 (by decide) [1, 2, 3, 0, 4, 5, 6] rfl ?_
                refine x_iinc (v := nI (k + 1)) (lv' := [(0, .ref h), (1, .int (nI ja)), (2, .double (pD ja)), (4, .double (prF G ja (k + 1))), (6, .int (nI (k + 1))), (7, .double (chD (pD ja) (qD ja) k (G 4 0))), (9, .int (nI (G 4 0)))]) (pc := 84) F dX1_probabilityNow_84 4 rfl (nx_inc (b := 1) k (by decide)) (by decide) [1, 2, 3, 4, 0, 5, 6] rfl ?_
                refine x_goto (tgt := 13) (pc := 87) F dX1_probabilityNow_87 (by decide) ?_
                refine x_lv [0, 1, 2, 3, 4] rfl ?_
                exact ih_13 (k + 1) K6 (by omega) (by omega)
              · refine x_dload (pc := 48) F dX1_probabilityNow_48 5 rfl ?_
                refine x_iload (pc := 50) F dX1_probabilityNow_50 4 rfl ?_
                refine x_iload (pc := 52) F dX1_probabilityNow_52 6 rfl ?_
                refine x_ishr (z := nI (k / 2 ^ i)) (pc := 54) F dX1_probabilityNow_54 (nx_shr (by omega) (by omega)) ?_
                refine x_iconst (v := nI 1) (pc := 55) F dX1_probabilityNow_55 (by decide) ?_
                refine x_iand (z := nI ((k / 2 ^ i) &&& 1)) (pc := 56) F dX1_probabilityNow_56 (nx_and (k / 2 ^ i) 1) ?_
                refine x_iconst (v := nI 1) (pc := 57) F dX1_probabilityNow_57 (by decide) ?_
                refine x_icmpN_ne (tgt := 65) (pc := 58) F dX1_probabilityNow_58 (by decide) (and1_lt _) (by decide) (fun hc_58 => ?_) (fun hc_58 => ?_)
                · refine x_dconst1 (pc := 65) F dX1_probabilityNow_65 ?_
                  refine x_dload_n (pc := 66) F dX1_probabilityNow_66 2 rfl rfl ?_
                  refine x_dsub (pc := 67) F dX1_probabilityNow_67 rfl (fl_q hja) ?_
                  refine x_dmul (pc := 68) F dX1_probabilityNow_68 (chD_f (fun z => hc_58 ((and1_tb _ _).mpr z))) (fl_ch (by omega) _ (by omega)) ?_
                  refine x_dstore (lv' := [(0, .ref h), (1, .int (nI ja)), (2, .double (pD ja)), (4, .double (prF G ja k)), (6, .int (nI k)), (7, .double (chD (pD ja) (qD ja) k (i + 1))), (9, .int (nI i))]) (pc := 69) F dX1_probabilityNow_69 (by decide) [1, 2, 3, 4, 5, 0, 6] rfl ?_
                  refine x_iinc (v := nI (i + 1)) (lv' := [(0, .ref h), (1, .int (nI ja)), (2, .double (pD ja)), (4, .double (prF G ja k)), (6, .int (nI k)), (7, .double (chD (pD ja) (qD ja) k (i + 1))), (9, .int (nI (i + 1)))]) (pc := 71) F dX1_probabilityNow_71 6 rfl (nx_inc (b := 1) i (by decide)) (by decide) [1, 2, 3, 4, 5, 6, 0] rfl ?_
                  refine x_goto (tgt := 39) (pc := 74) F dX1_probabilityNow_74 (by decide) ?_
                  refine x_lv [0, 1, 2, 3, 4, 5, 6] rfl ?_
                  exact ih_39 (i + 1) (by omega) (by omega)
                · refine x_dload_n (pc := 61) F dX1_probabilityNow_61 2 rfl rfl ?_
                  refine x_goto (tgt := 68) (pc := 62) F dX1_probabilityNow_62 (by decide) ?_
                  refine x_dmul (pc := 68) F dX1_probabilityNow_68 (chD_t ((and1_tb _ _).mp hc_58)) (fl_ch (by omega) _ (by omega)) ?_
                  refine x_dstore (lv' := [(0, .ref h), (1, .int (nI ja)), (2, .double (pD ja)), (4, .double (prF G ja k)), (6, .int (nI k)), (7, .double (chD (pD ja) (qD ja) k (i + 1))), (9, .int (nI i))]) (pc := 69) F dX1_probabilityNow_69 (by decide) [1, 2, 3, 4, 5, 0, 6] rfl ?_
                  refine x_iinc (v := nI (i + 1)) (lv' := [(0, .ref h), (1, .int (nI ja)), (2, .double (pD ja)), (4, .double (prF G ja k)), (6, .int (nI k)), (7, .double (chD (pD ja) (qD ja) k (i + 1))), (9, .int (nI (i + 1)))]) (pc := 71) F dX1_probabilityNow_71 6 rfl (nx_inc (b := 1) i (by decide)) (by decide) [1, 2, 3, 4, 5, 6, 0] rfl ?_
                  refine x_goto (tgt := 39) (pc := 74) F dX1_probabilityNow_74 (by decide) ?_
                  refine x_lv [0, 1, 2, 3, 4, 5, 6] rfl ?_
                  exact ih_39 (i + 1) (by omega) (by omega)
          refine x_lv [0, 1, 2, 3, 4, 5, 6] rfl ?_
          exact cut_39 ((G 4 0 - 0) + 1) 0 (Nat.zero_le _) (Nat.lt_succ_self _)
  refine x_lv [0, 1, 2, 3, 4] rfl ?_
  exact cut_13 ((1 * 2 ^ G 4 0 - 0) + 1) 0 K (Nat.zero_le _) (Nat.lt_succ_self _)
set_option maxHeartbeats 4000000 in
set_option maxRecDepth 100000 in
theorem c_X1_successProbability (l : Launch) (G : GS) (K : Nat → Nat) (hs : Int64) (x : Int32) (hG : ok G) : MCl wM tM l yX1_successProbability wsX1_successProbability ({ frames := 3, cells := 0, slots := 0, locals := 76 }) [.int (x)] (G, K, hs) (fun r u => ∃ K', u = (G, K', hs) ∧ r = sp_prob G x) := by
  have hG0 := hG
  obtain ⟨b1, b2, b3, b4, b5, b6, b7, b8, b9, b10, b11⟩ := hG0
  refine x_startl (cc := cX1_successProbability) (maxL := 2) (ret := (some .long)) (own := RX1) (by decide) rfl rfl (fun _ => Nat.le_of_ble_eq_true rfl) ?_
  intro p e s m args below meth c D h q cs F hK hr hlk Q0 hQ0
  refine x_lv (lv' := [(0, .ref h), (1, .int (x))]) [0, 1] rfl ?_
  have hin : ∀ w ∈ wsX10, w ∈ wsX1_successProbability := by decide +kernel
  have hm_calls : Cond.fieldLink RX1 46 "GossipScheduleModel" "calls" "I" ∈ wsX1_successProbability := by decide +kernel
  have hk_159 : Cond.constantLong RX1 159 (-5) ∈ wsX1_successProbability := by decide +kernel
  have hk_161 : Cond.constantLong RX1 161 (-15) ∈ wsX1_successProbability := by decide +kernel
  refine x_iload_n (pc := 0) F dX1_successProbability_0 1 rfl rfl ?_
  refine x_iconst (v := nI 0) (pc := 1) F dX1_successProbability_1 (by decide) ?_
  refine x_bipush (v := nI 100) (pc := 2) F dX1_successProbability_2 (by decide) ?_
  refine x_scalli (pc := 4) F [.int (x), .int (nI 0), .int (nI 100)] [] (c_X1_within l x (nI 0) (nI 100) ((x).toInt) (((0 : Nat) : Int)) (((100 : Nat) : Int)) rfl (nI_toInt (by omega)) (nI_toInt (by omega))) (va_cwS 3 F.2.2.2.2 gX1_successProbability_X1_within rfl rfl rfl (by decide +kernel) ⟨Nat.le_of_ble_eq_true rfl, Nat.le_of_ble_eq_true rfl⟩) rfl rfl (Nat.le_of_ble_eq_true rfl) dX1_successProbability_4 ?_
  rintro _ rfl
  refine x_ifB_ne (tgt := 14) (pc := 7) F dX1_successProbability_7 (by decide) (fun hc_7 => ?_) (fun hc_7 => ?_)
  · obtain ⟨ja, h_ja, rfl⟩ := nI_ofR (x := x) (n := 101) (by omega) (by omega)
    have e_ja : (nI ja).toInt = (ja : Int) := nI_toInt (by omega)
    refine x_aload_n (pc := 14) F dX1_successProbability_14 0 rfl rfl ?_
    refine gM_calls (v := G 4 0) (pc := 15) F hK hin hm_calls rfl dX1_successProbability_15 ?_
    refine x_bipush (v := nI 12) (pc := 18) F dX1_successProbability_18 (by decide) ?_
    refine x_icmpN_le (tgt := 29) (pc := 20) F dX1_successProbability_20 (by decide) (by omega) (by decide) (fun hc_20 => ?_) (fun hc_20 => ?_)
    · refine x_aload_n (pc := 29) F dX1_successProbability_29 0 rfl rfl ?_
      refine x_iload_n (pc := 30) F dX1_successProbability_30 1 rfl rfl ?_
      refine x_calll (w := wM) (ty := tM) (pc := 31) F hK wM_in [.int (nI ja)] [] (c_X1_probabilityNow l G K hs ja (by omega) (by omega) hG) (cwV 1 F.2.2.2.2 gX1_successProbability_X1_probabilityNow rfl rfl rfl (by decide +kernel) ⟨Nat.le_of_ble_eq_true rfl, Nat.le_of_ble_eq_true rfl⟩) rfl rfl rfl rfl (Nat.le_of_ble_eq_true rfl) dX1_successProbability_31 ?_
      rintro _ _ ⟨K9, rfl, rfl⟩
      exact x_retl (w := wM) (ty := tM) (pc := 34) F hK hr hlk hQ0 dX1_successProbability_34 (⟨K9, rfl, by rw [sp_prob, if_pos (by omega), if_neg (by omega), toNat_nI (by omega)]⟩)
    · refine x_ldc2 (pc := 23) F dX1_successProbability_23 hk_161 ?_
      refine x_goto (tgt := 34) (pc := 26) F dX1_successProbability_26 (by decide) ?_
      exact x_retl (w := wM) (ty := tM) (pc := 34) F hK hr hlk hQ0 dX1_successProbability_34 (⟨K, rfl, by rw [sp_prob, if_pos (by omega), if_pos (by omega)]⟩)
  · refine x_ldc2 (pc := 10) F dX1_successProbability_10 hk_159 ?_
    exact x_retl (w := wM) (ty := tM) (pc := 13) F hK hr hlk hQ0 dX1_successProbability_13 (⟨K, rfl, by rw [sp_prob, if_neg (by omega)]⟩)
set_option maxHeartbeats 4000000 in
set_option maxRecDepth 100000 in
theorem c_X1_mix (l : Launch) (G : GS) (K : Nat → Nat) (hs : Int64) (xx : Int64) : MCv wM tM l yX1_mix wsX1_mix ({ frames := 0, cells := 0, slots := 0, locals := 0 }) [.long (xx)] (G, K, hs) (fun u => u = (G, K, mx hs xx)) := by
  refine x_startv (cc := cX1_mix) (maxL := 3) (ret := none) (own := RX1) (by decide) rfl rfl (fun _ => Nat.le_of_ble_eq_true rfl) ?_
  intro p e s m args below meth c D h q cs F hK hr hlk Q0 hQ0
  refine x_lv (lv' := [(0, .ref h), (1, .long (xx))]) [0, 1] rfl ?_
  have hin : ∀ w ∈ wsX10, w ∈ wsX1_mix := by decide +kernel
  have hm_hash : Cond.fieldLink RX1 169 "GossipScheduleModel" "hash" "J" ∈ wsX1_mix := by decide +kernel
  have hk_167 : Cond.constantLong RX1 167 (31) ∈ wsX1_mix := by decide +kernel
  refine x_aload_n (pc := 0) F dX1_mix_0 0 rfl rfl ?_
  refine x_ldc2 (v := lN 31) (pc := 1) F dX1_mix_1 hk_167 ?_
  refine x_aload_n (pc := 4) F dX1_mix_4 0 rfl rfl ?_
  refine gM_hash (pc := 5) F hK hin hm_hash dX1_mix_5 ?_
  refine x_lmul (pc := 8) F dX1_mix_8 rfl ?_
  refine x_lload_n (pc := 9) F dX1_mix_9 1 rfl rfl ?_
  refine x_ladd (pc := 10) F dX1_mix_10 rfl ?_
  refine pM_hash (pc := 11) F hK hin hm_hash dX1_mix_11 ?_
  exact x_retv (w := wM) (ty := tM) (pc := 14) F hK hr hlk hQ0 dX1_mix_14 (rfl)
set_option maxHeartbeats 4000000 in
set_option maxRecDepth 100000 in
theorem c_X1_mixRound (l : Launch) (G : GS) (K : Nat → Nat) (hs : Int64) (mm : Nat) (hm : mm ≤ 16) (hG : ok G) : MCv wM tM l yX1_mixRound wsX1_mixRound ({ frames := 3, cells := 0, slots := 0, locals := 71 }) [.int (nI mm)] (G, K, hs) (fun u => ∃ K', u = (G, K', mx (mkP (kr G (rdF G mm) (G 4 0)) hs (G 0 0)) (avR G mm).toInt64)) := by
  have hG0 := hG
  obtain ⟨b1, b2, b3, b4, b5, b6, b7, b8, b9, b10, b11⟩ := hG0
  refine x_startv (cc := cX1_mixRound) (maxL := 3) (ret := none) (own := RX1) (by decide) rfl rfl (fun _ => Nat.le_of_ble_eq_true rfl) ?_
  intro p e s m args below meth c D h q cs F hK hr hlk Q0 hQ0
  refine x_lv (lv' := [(0, .ref h), (1, .int (nI mm))]) [0, 1] rfl ?_
  have hin : ∀ w ∈ wsX10, w ∈ wsX1_mixRound := by decide +kernel
  have hm_persons : Cond.fieldLink RX1 7 "GossipScheduleModel" "persons" "I" ∈ wsX1_mixRound := by decide +kernel
  have hm_known : Cond.fieldLink RX1 30 "GossipScheduleModel" "known" "[I" ∈ wsX1_mixRound := by decide +kernel
  refine x_aload_n (pc := 0) F dX1_mixRound_0 0 rfl rfl ?_
  refine x_iload_n (pc := 1) F dX1_mixRound_1 1 rfl rfl ?_
  refine x_callv (w := wM) (ty := tM) (pc := 2) F hK wM_in [.int (nI mm)] [] (c_X1_afterRounds l G K hs mm (by omega) hG) (cwV 1 F.2.2.2.2 gX1_mixRound_X1_afterRounds rfl rfl rfl (by decide +kernel) ⟨Nat.le_of_ble_eq_true rfl, Nat.le_of_ble_eq_true rfl⟩) rfl rfl rfl rfl (Nat.le_of_ble_eq_true rfl) dX1_mixRound_2 ?_
  rintro _ rfl
  have hKb := krb_c hG (rdF G mm) K (c := G 4 0) (Nat.le_refl _)
  refine x_iconst (v := nI 0) (pc := 5) F dX1_mixRound_5 (by decide) ?_
  refine x_istore_n (lv' := [(0, .ref h), (1, .int (nI mm)), (2, .int (nI 0))]) (pc := 6) F dX1_mixRound_6 rfl (by decide) [1, 2, 0] rfl ?_
  have cut_7 : ∀ (fu : Nat) (pp : Nat), (pp ≤ G 0 0) → (G 0 0 - pp) < fu → V p l e ({ frames := 3, cells := 0, slots := 0, locals := 71 }) s m args below meth c 3 0 0 Q0 (IC wM D h q cs s (G, krS G (rdF G mm) (kb K) (G 4 0), mkP (krS G (rdF G mm) (kb K) (G 4 0)) hs pp)) 7 [(0, .ref h), (1, .int (nI mm)), (2, .int (nI pp))] [] := by
    intro fu
    induction fu with
    | zero => intro pp hpp hfu; exact absurd hfu (Nat.not_lt_zero _)
    | succ fu ih_7 =>
      intro pp hpp hfu
      refine x_iload_n (pc := 7) F dX1_mixRound_7 2 rfl rfl ?_
      refine x_aload_n (pc := 8) F dX1_mixRound_8 0 rfl rfl ?_
      refine gM_persons (v := G 0 0) (pc := 9) F hK hin hm_persons rfl dX1_mixRound_9 ?_
      refine x_icmpN_ge (tgt := 32) (pc := 12) F dX1_mixRound_12 (by decide) (by omega) (by omega) (fun hc_12 => ?_) (fun hc_12 => ?_)
      · rw [show mkP (krS G (rdF G mm) (kb K) (G 4 0)) hs pp = mkP (kr G (rdF G mm) (G 4 0)) hs (G 0 0) from by rw [show pp = G 0 0 by omega]; exact mkP_cong hs _ (fun p hp => krb hG _ K p (by omega))]
        refine x_aload_n (pc := 32) F dX1_mixRound_32 0 rfl rfl ?_
        refine x_aload_n (pc := 33) F dX1_mixRound_33 0 rfl rfl ?_
        refine x_iload_n (pc := 34) F dX1_mixRound_34 1 rfl rfl ?_
        refine x_calli (w := wM) (ty := tM) (pc := 35) F hK wM_in [.int (nI mm)] [.ref h] (c_X1_averageNow l G (krS G (rdF G mm) (kb K) (G 4 0)) (mkP (kr G (rdF G mm) (G 4 0)) hs (G 0 0)) mm (by omega) hG) (cwV 1 F.2.2.2.2 gX1_mixRound_X1_averageNow rfl rfl rfl (by decide +kernel) ⟨Nat.le_of_ble_eq_true rfl, Nat.le_of_ble_eq_true rfl⟩) rfl rfl rfl rfl (Nat.le_of_ble_eq_true rfl) dX1_mixRound_35 ?_
        rintro _ _ ⟨K2, rfl, rfl⟩
        refine x_i2l (pc := 38) F dX1_mixRound_38 rfl ?_
        refine x_callv (w := wM) (ty := tM) (pc := 39) F hK wM_in [.long ((avR G mm).toInt64)] [] (c_X1_mix l G K2 (mkP (kr G (rdF G mm) (G 4 0)) hs (G 0 0)) ((avR G mm).toInt64)) (cwV 1 F.2.2.2.2 gX1_mixRound_X1_mix rfl rfl rfl (by decide +kernel) ⟨Nat.le_of_ble_eq_true rfl, Nat.le_of_ble_eq_true rfl⟩) rfl rfl rfl rfl (Nat.le_of_ble_eq_true rfl) dX1_mixRound_39 ?_
        rintro _ rfl
        exact x_retv (w := wM) (ty := tM) (pc := 42) F hK hr hlk hQ0 dX1_mixRound_42 (⟨K2, rfl⟩)
      · have hkp := hKb pp (by omega)
        refine x_aload_n (pc := 15) F dX1_mixRound_15 0 rfl rfl ?_
        refine x_aload_n (pc := 16) F dX1_mixRound_16 0 rfl rfl ?_
        refine gM_known (pc := 17) F hK hin hm_known dX1_mixRound_17 ?_
        refine x_iload_n (pc := 20) F dX1_mixRound_20 2 rfl rfl ?_
        refine lM_known (v := (krS G (rdF G mm) (kb K) (G 4 0)) pp) (pc := 21) F hK dX1_mixRound_21 (by omega) rfl ?_
        refine x_i2l (pc := 22) F dX1_mixRound_22 (nI_l (by omega)) ?_
        refine x_callv (w := wM) (ty := tM) (pc := 23) F hK wM_in [.long (lN ((krS G (rdF G mm) (kb K) (G 4 0)) pp))] [] (c_X1_mix l G (krS G (rdF G mm) (kb K) (G 4 0)) (mkP (krS G (rdF G mm) (kb K) (G 4 0)) hs pp) (lN ((krS G (rdF G mm) (kb K) (G 4 0)) pp))) (cwV 1 F.2.2.2.2 gX1_mixRound_X1_mix rfl rfl rfl (by decide +kernel) ⟨Nat.le_of_ble_eq_true rfl, Nat.le_of_ble_eq_true rfl⟩) rfl rfl rfl rfl (Nat.le_of_ble_eq_true rfl) dX1_mixRound_23 ?_
        rintro _ rfl
        refine x_iinc (v := nI (pp + 1)) (lv' := [(0, .ref h), (1, .int (nI mm)), (2, .int (nI (pp + 1)))]) (pc := 26) F dX1_mixRound_26 2 rfl (nx_inc (b := 1) pp (by decide)) (by decide) [1, 2, 0] rfl ?_
        refine x_goto (tgt := 7) (pc := 29) F dX1_mixRound_29 (by decide) ?_
        refine x_lv [0, 1, 2] rfl ?_
        exact ih_7 (pp + 1) (by omega) (by omega)
  refine x_lv [0, 1, 2] rfl ?_
  exact cut_7 ((G 0 0 - 0) + 1) 0 (Nat.zero_le _) (Nat.lt_succ_self _)
set_option maxHeartbeats 4000000 in
set_option maxRecDepth 100000 in
theorem c_X1_digest (l : Launch) (G : GS) (K : Nat → Nat) (hs : Int64) (hG : ok G) : MCl wM tM l yX1_digest wsX1_digest ({ frames := 4, cells := 0, slots := 0, locals := 97 }) [] (G, K, hs) (fun r u => ∃ K' hs', u = (G, K', hs') ∧ r = sp_dig G) := by
  have hG0 := hG
  obtain ⟨b1, b2, b3, b4, b5, b6, b7, b8, b9, b10, b11⟩ := hG0
  have hrl := rdN_le G (G 4 0)
  have hle0 := leN_le G 0
  have hle1 := leN_le G 1
  refine x_startl (cc := cX1_digest) (maxL := 2) (ret := (some .long)) (own := RX1) (by decide) rfl rfl (fun _ => Nat.le_of_ble_eq_true rfl) ?_
  intro p e s m args below meth c D h q cs F hK hr hlk Q0 hQ0
  refine x_lv (lv' := [(0, .ref h)]) [0] rfl ?_
  have hin : ∀ w ∈ wsX10, w ∈ wsX1_digest := by decide +kernel
  have hm_hash : Cond.fieldLink RX1 169 "GossipScheduleModel" "hash" "J" ∈ wsX1_digest := by decide +kernel
  have hm_persons : Cond.fieldLink RX1 7 "GossipScheduleModel" "persons" "I" ∈ wsX1_digest := by decide +kernel
  have hm_mode : Cond.fieldLink RX1 37 "GossipScheduleModel" "mode" "I" ∈ wsX1_digest := by decide +kernel
  have hm_graph : Cond.fieldLink RX1 40 "GossipScheduleModel" "graph" "I" ∈ wsX1_digest := by decide +kernel
  have hm_rounds : Cond.fieldLink RX1 43 "GossipScheduleModel" "rounds" "I" ∈ wsX1_digest := by decide +kernel
  have hm_calls : Cond.fieldLink RX1 46 "GossipScheduleModel" "calls" "I" ∈ wsX1_digest := by decide +kernel
  have hm_length : Cond.fieldLink RX1 72 "GossipScheduleModel" "length" "I" ∈ wsX1_digest := by decide +kernel
  have hm_buffer : Cond.fieldLink RX1 27 "GossipScheduleModel" "buffer" "[I" ∈ wsX1_digest := by decide +kernel
  have hk_177 : Cond.constantLong RX1 177 (1759) ∈ wsX1_digest := by decide +kernel
  refine x_aload_n (pc := 0) F dX1_digest_0 0 rfl rfl ?_
  refine x_ldc2 (v := lN 1759) (pc := 1) F dX1_digest_1 hk_177 ?_
  refine pM_hash (pc := 4) F hK hin hm_hash dX1_digest_4 ?_
  refine x_aload_n (pc := 7) F dX1_digest_7 0 rfl rfl ?_
  refine x_aload_n (pc := 8) F dX1_digest_8 0 rfl rfl ?_
  refine gM_persons (v := G 0 0) (pc := 9) F hK hin hm_persons rfl dX1_digest_9 ?_
  refine x_i2l (v := lN (G 0 0)) (pc := 12) F dX1_digest_12 (nI_l (by omega)) ?_
  refine x_callv (w := wM) (ty := tM) (pc := 13) F hK wM_in [.long (lN (G 0 0))] [] (c_X1_mix l G K (lN 1759) (lN (G 0 0))) (cwV 1 F.2.2.2.2 gX1_digest_X1_mix rfl rfl rfl (by decide +kernel) ⟨Nat.le_of_ble_eq_true rfl, Nat.le_of_ble_eq_true rfl⟩) rfl rfl rfl rfl (Nat.le_of_ble_eq_true rfl) dX1_digest_13 ?_
  rintro _ rfl
  refine x_aload_n (pc := 16) F dX1_digest_16 0 rfl rfl ?_
  refine x_aload_n (pc := 17) F dX1_digest_17 0 rfl rfl ?_
  refine gM_mode (v := G 1 0) (pc := 18) F hK hin hm_mode rfl dX1_digest_18 ?_
  refine x_i2l (v := lN (G 1 0)) (pc := 21) F dX1_digest_21 (nI_l (by omega)) ?_
  refine x_callv (w := wM) (ty := tM) (pc := 22) F hK wM_in [.long (lN (G 1 0))] [] (c_X1_mix l G K (mx (lN 1759) (lN (G 0 0))) (lN (G 1 0))) (cwV 1 F.2.2.2.2 gX1_digest_X1_mix rfl rfl rfl (by decide +kernel) ⟨Nat.le_of_ble_eq_true rfl, Nat.le_of_ble_eq_true rfl⟩) rfl rfl rfl rfl (Nat.le_of_ble_eq_true rfl) dX1_digest_22 ?_
  rintro _ rfl
  refine x_aload_n (pc := 25) F dX1_digest_25 0 rfl rfl ?_
  refine x_aload_n (pc := 26) F dX1_digest_26 0 rfl rfl ?_
  refine gM_graph (v := G 2 0) (pc := 27) F hK hin hm_graph rfl dX1_digest_27 ?_
  refine x_i2l (v := lN (G 2 0)) (pc := 30) F dX1_digest_30 (nI_l (by omega)) ?_
  refine x_callv (w := wM) (ty := tM) (pc := 31) F hK wM_in [.long (lN (G 2 0))] [] (c_X1_mix l G K (mx (mx (lN 1759) (lN (G 0 0))) (lN (G 1 0))) (lN (G 2 0))) (cwV 1 F.2.2.2.2 gX1_digest_X1_mix rfl rfl rfl (by decide +kernel) ⟨Nat.le_of_ble_eq_true rfl, Nat.le_of_ble_eq_true rfl⟩) rfl rfl rfl rfl (Nat.le_of_ble_eq_true rfl) dX1_digest_31 ?_
  rintro _ rfl
  refine x_aload_n (pc := 34) F dX1_digest_34 0 rfl rfl ?_
  refine x_aload_n (pc := 35) F dX1_digest_35 0 rfl rfl ?_
  refine gM_rounds (v := G 3 0) (pc := 36) F hK hin hm_rounds rfl dX1_digest_36 ?_
  refine x_i2l (v := lN (G 3 0)) (pc := 39) F dX1_digest_39 (nI_l (by omega)) ?_
  refine x_callv (w := wM) (ty := tM) (pc := 40) F hK wM_in [.long (lN (G 3 0))] [] (c_X1_mix l G K (mx (mx (mx (lN 1759) (lN (G 0 0))) (lN (G 1 0))) (lN (G 2 0))) (lN (G 3 0))) (cwV 1 F.2.2.2.2 gX1_digest_X1_mix rfl rfl rfl (by decide +kernel) ⟨Nat.le_of_ble_eq_true rfl, Nat.le_of_ble_eq_true rfl⟩) rfl rfl rfl rfl (Nat.le_of_ble_eq_true rfl) dX1_digest_40 ?_
  rintro _ rfl
  refine x_aload_n (pc := 43) F dX1_digest_43 0 rfl rfl ?_
  refine x_aload_n (pc := 44) F dX1_digest_44 0 rfl rfl ?_
  refine gM_calls (v := G 4 0) (pc := 45) F hK hin hm_calls rfl dX1_digest_45 ?_
  refine x_i2l (v := lN (G 4 0)) (pc := 48) F dX1_digest_48 (nI_l (by omega)) ?_
  refine x_callv (w := wM) (ty := tM) (pc := 49) F hK wM_in [.long (lN (G 4 0))] [] (c_X1_mix l G K (mx (mx (mx (mx (lN 1759) (lN (G 0 0))) (lN (G 1 0))) (lN (G 2 0))) (lN (G 3 0))) (lN (G 4 0))) (cwV 1 F.2.2.2.2 gX1_digest_X1_mix rfl rfl rfl (by decide +kernel) ⟨Nat.le_of_ble_eq_true rfl, Nat.le_of_ble_eq_true rfl⟩) rfl rfl rfl rfl (Nat.le_of_ble_eq_true rfl) dX1_digest_49 ?_
  rintro _ rfl
  refine x_iconst (v := nI 0) (pc := 52) F dX1_digest_52 (by decide) ?_
  refine x_istore_n (lv' := [(0, .ref h), (1, .int (nI 0))]) (pc := 53) F dX1_digest_53 rfl (by decide) [1, 0] rfl ?_
  have cut_54 : ∀ (fu : Nat) (i : Nat) (K1 : Nat → Nat), (i ≤ G 4 0) → (G 4 0 - i) < fu → V p l e ({ frames := 4, cells := 0, slots := 0, locals := 97 }) s m args below meth c 2 0 0 Q0 (IC wM D h q cs s (G, K1, mcF G (dg1 G) i)) 54 [(0, .ref h), (1, .int (nI i))] [] := by
    intro fu
    induction fu with
    | zero => intro i K1 hi hfu; exact absurd hfu (Nat.not_lt_zero _)
    | succ fu ih_54 =>
      intro i K1 hi hfu
      refine x_iload_n (pc := 54) F dX1_digest_54 1 rfl rfl ?_
      refine x_aload_n (pc := 55) F dX1_digest_55 0 rfl rfl ?_
      refine gM_calls (v := G 4 0) (pc := 56) F hK hin hm_calls rfl dX1_digest_56 ?_
      refine x_icmpN_ge (tgt := 88) (pc := 59) F dX1_digest_59 (by decide) (by omega) (by omega) (fun hc_59 => ?_) (fun hc_59 => ?_)
      · rw [show mcF G (dg1 G) i = mcF G (dg1 G) (G 4 0) from by rw [show i = G 4 0 by omega]]
        refine x_iconst (v := nI 0) (pc := 88) F dX1_digest_88 (by decide) ?_
        refine x_istore_n (lv' := [(0, .ref h), (1, .int (nI 0))]) (pc := 89) F dX1_digest_89 rfl (by decide) [1, 0] rfl ?_
        have cut_90 : ∀ (fu : Nat) (i : Nat) (K1 : Nat → Nat), (i ≤ G 3 0 + 1) → (G 3 0 + 1 - i) < fu → V p l e ({ frames := 4, cells := 0, slots := 0, locals := 97 }) s m args below meth c 2 0 0 Q0 (IC wM D h q cs s (G, K1, mkR G (mcF G (dg1 G) (G 4 0)) i)) 90 [(0, .ref h), (1, .int (nI i))] [] := by
          intro fu
          induction fu with
          | zero => intro i K1 hi hfu; exact absurd hfu (Nat.not_lt_zero _)
          | succ fu ih_90 =>
            intro i K1 hi hfu
            refine x_iload_n (pc := 90) F dX1_digest_90 1 rfl rfl ?_
            refine x_aload_n (pc := 91) F dX1_digest_91 0 rfl rfl ?_
            refine gM_rounds (v := G 3 0) (pc := 92) F hK hin hm_rounds rfl dX1_digest_92 ?_
            refine x_icmpN_gt (tgt := 109) (pc := 95) F dX1_digest_95 (by decide) (by omega) (by omega) (fun hc_95 => ?_) (fun hc_95 => ?_)
            · rw [show mkR G (mcF G (dg1 G) (G 4 0)) i = dg2 G from by rw [show i = G 3 0 + 1 by omega]; rfl]
              refine x_aload_n (pc := 109) F dX1_digest_109 0 rfl rfl ?_
              refine x_aload_n (pc := 110) F dX1_digest_110 0 rfl rfl ?_
              refine x_calli (w := wM) (ty := tM) (pc := 111) F hK wM_in [] [.ref h] (c_X1_completeNow l G K1 (dg2 G) hG) (cwV 0 F.2.2.2.2 gX1_digest_X1_completeNow rfl rfl rfl (by decide +kernel) ⟨Nat.le_of_ble_eq_true rfl, Nat.le_of_ble_eq_true rfl⟩) rfl rfl rfl rfl (Nat.le_of_ble_eq_true rfl) dX1_digest_111 ?_
              rintro _ _ ⟨K8, rfl, rfl⟩
              refine x_i2l (pc := 114) F dX1_digest_114 rfl ?_
              refine x_callv (w := wM) (ty := tM) (pc := 115) F hK wM_in [.long ((caV G).toInt64)] [] (c_X1_mix l G K8 (dg2 G) ((caV G).toInt64)) (cwV 1 F.2.2.2.2 gX1_digest_X1_mix rfl rfl rfl (by decide +kernel) ⟨Nat.le_of_ble_eq_true rfl, Nat.le_of_ble_eq_true rfl⟩) rfl rfl rfl rfl (Nat.le_of_ble_eq_true rfl) dX1_digest_115 ?_
              rintro _ rfl
              refine x_aload_n (pc := 118) F dX1_digest_118 0 rfl rfl ?_
              refine x_aload_n (pc := 119) F dX1_digest_119 0 rfl rfl ?_
              refine x_calli (w := wM) (ty := tM) (pc := 120) F hK wM_in [] [.ref h] (c_X1_redundantNow l G K8 (mx (dg2 G) ((caV G).toInt64)) hG) (cwV 0 F.2.2.2.2 gX1_digest_X1_redundantNow rfl rfl rfl (by decide +kernel) ⟨Nat.le_of_ble_eq_true rfl, Nat.le_of_ble_eq_true rfl⟩) rfl rfl rfl rfl (Nat.le_of_ble_eq_true rfl) dX1_digest_120 ?_
              rintro _ _ ⟨K7, rfl, rfl⟩
              refine x_i2l (v := lN (rdN G (G 4 0))) (pc := 123) F dX1_digest_123 (nI_l (by omega)) ?_
              refine x_callv (w := wM) (ty := tM) (pc := 124) F hK wM_in [.long (lN (rdN G (G 4 0)))] [] (c_X1_mix l G K7 (mx (dg2 G) ((caV G).toInt64)) (lN (rdN G (G 4 0)))) (cwV 1 F.2.2.2.2 gX1_digest_X1_mix rfl rfl rfl (by decide +kernel) ⟨Nat.le_of_ble_eq_true rfl, Nat.le_of_ble_eq_true rfl⟩) rfl rfl rfl rfl (Nat.le_of_ble_eq_true rfl) dX1_digest_124 ?_
              rintro _ rfl
              refine x_aload_n (pc := 127) F dX1_digest_127 0 rfl rfl ?_
              refine x_aload_n (pc := 128) F dX1_digest_128 0 rfl rfl ?_
              refine x_iconst (v := nI 0) (pc := 129) F dX1_digest_129 (by decide) ?_
              refine x_calli (w := wM) (ty := tM) (pc := 130) F hK wM_in [.int (nI 0)] [.ref h] (c_X1_leastNow l G K7 (mx (mx (dg2 G) ((caV G).toInt64)) (lN (rdN G (G 4 0)))) 0 (by omega) hG) (cwV 1 F.2.2.2.2 gX1_digest_X1_leastNow rfl rfl rfl (by decide +kernel) ⟨Nat.le_of_ble_eq_true rfl, Nat.le_of_ble_eq_true rfl⟩) rfl rfl rfl rfl (Nat.le_of_ble_eq_true rfl) dX1_digest_130 ?_
              rintro _ _ ⟨rfl, rfl⟩
              refine x_i2l (v := lN (leN G 0)) (pc := 133) F dX1_digest_133 (nI_l (by omega)) ?_
              refine x_callv (w := wM) (ty := tM) (pc := 134) F hK wM_in [.long (lN (leN G 0))] [] (c_X1_mix l G K7 (mx (mx (dg2 G) ((caV G).toInt64)) (lN (rdN G (G 4 0)))) (lN (leN G 0))) (cwV 1 F.2.2.2.2 gX1_digest_X1_mix rfl rfl rfl (by decide +kernel) ⟨Nat.le_of_ble_eq_true rfl, Nat.le_of_ble_eq_true rfl⟩) rfl rfl rfl rfl (Nat.le_of_ble_eq_true rfl) dX1_digest_134 ?_
              rintro _ rfl
              refine x_aload_n (pc := 137) F dX1_digest_137 0 rfl rfl ?_
              refine x_aload_n (pc := 138) F dX1_digest_138 0 rfl rfl ?_
              refine x_iconst (v := nI 1) (pc := 139) F dX1_digest_139 (by decide) ?_
              refine x_calli (w := wM) (ty := tM) (pc := 140) F hK wM_in [.int (nI 1)] [.ref h] (c_X1_leastNow l G K7 (mx (mx (mx (dg2 G) ((caV G).toInt64)) (lN (rdN G (G 4 0)))) (lN (leN G 0))) 1 (by omega) hG) (cwV 1 F.2.2.2.2 gX1_digest_X1_leastNow rfl rfl rfl (by decide +kernel) ⟨Nat.le_of_ble_eq_true rfl, Nat.le_of_ble_eq_true rfl⟩) rfl rfl rfl rfl (Nat.le_of_ble_eq_true rfl) dX1_digest_140 ?_
              rintro _ _ ⟨rfl, rfl⟩
              refine x_i2l (v := lN (leN G 1)) (pc := 143) F dX1_digest_143 (nI_l (by omega)) ?_
              refine x_callv (w := wM) (ty := tM) (pc := 144) F hK wM_in [.long (lN (leN G 1))] [] (c_X1_mix l G K7 (mx (mx (mx (dg2 G) ((caV G).toInt64)) (lN (rdN G (G 4 0)))) (lN (leN G 0))) (lN (leN G 1))) (cwV 1 F.2.2.2.2 gX1_digest_X1_mix rfl rfl rfl (by decide +kernel) ⟨Nat.le_of_ble_eq_true rfl, Nat.le_of_ble_eq_true rfl⟩) rfl rfl rfl rfl (Nat.le_of_ble_eq_true rfl) dX1_digest_144 ?_
              rintro _ rfl
              refine x_aload_n (pc := 147) F dX1_digest_147 0 rfl rfl ?_
              refine x_aload_n (pc := 148) F dX1_digest_148 0 rfl rfl ?_
              refine x_calli (w := wM) (ty := tM) (pc := 149) F hK wM_in [] [.ref h] (c_X1_smallestNow l G K7 (mx (mx (mx (mx (dg2 G) ((caV G).toInt64)) (lN (rdN G (G 4 0)))) (lN (leN G 0))) (lN (leN G 1))) hG) (cwV 0 F.2.2.2.2 gX1_digest_X1_smallestNow rfl rfl rfl (by decide +kernel) ⟨Nat.le_of_ble_eq_true rfl, Nat.le_of_ble_eq_true rfl⟩) rfl rfl rfl rfl (Nat.le_of_ble_eq_true rfl) dX1_digest_149 ?_
              rintro _ _ ⟨K3, rfl, rfl⟩
              refine x_i2l (pc := 152) F dX1_digest_152 rfl ?_
              refine x_callv (w := wM) (ty := tM) (pc := 153) F hK wM_in [.long ((sp_sm G).toInt64)] [] (c_X1_mix l G K3 (mx (mx (mx (mx (dg2 G) ((caV G).toInt64)) (lN (rdN G (G 4 0)))) (lN (leN G 0))) (lN (leN G 1))) ((sp_sm G).toInt64)) (cwV 1 F.2.2.2.2 gX1_digest_X1_mix rfl rfl rfl (by decide +kernel) ⟨Nat.le_of_ble_eq_true rfl, Nat.le_of_ble_eq_true rfl⟩) rfl rfl rfl rfl (Nat.le_of_ble_eq_true rfl) dX1_digest_153 ?_
              rintro _ rfl
              refine x_aload_n (pc := 156) F dX1_digest_156 0 rfl rfl ?_
              refine x_aload_n (pc := 157) F dX1_digest_157 0 rfl rfl ?_
              refine x_bipush (v := nI 50) (pc := 158) F dX1_digest_158 (by decide) ?_
              refine x_calll (w := wM) (ty := tM) (pc := 160) F hK wM_in [.int (nI 50)] [.ref h] (c_X1_successProbability l G K3 (mx (mx (mx (mx (mx (dg2 G) ((caV G).toInt64)) (lN (rdN G (G 4 0)))) (lN (leN G 0))) (lN (leN G 1))) ((sp_sm G).toInt64)) (nI 50) hG) (cwV 1 F.2.2.2.2 gX1_digest_X1_successProbability rfl rfl rfl (by decide +kernel) ⟨Nat.le_of_ble_eq_true rfl, Nat.le_of_ble_eq_true rfl⟩) rfl rfl rfl rfl (Nat.le_of_ble_eq_true rfl) dX1_digest_160 ?_
              rintro _ _ ⟨K0, rfl, rfl⟩
              refine x_callv (w := wM) (ty := tM) (pc := 163) F hK wM_in [.long (sp_prob G (nI 50))] [] (c_X1_mix l G K0 (mx (mx (mx (mx (mx (dg2 G) ((caV G).toInt64)) (lN (rdN G (G 4 0)))) (lN (leN G 0))) (lN (leN G 1))) ((sp_sm G).toInt64)) (sp_prob G (nI 50))) (cwV 1 F.2.2.2.2 gX1_digest_X1_mix rfl rfl rfl (by decide +kernel) ⟨Nat.le_of_ble_eq_true rfl, Nat.le_of_ble_eq_true rfl⟩) rfl rfl rfl rfl (Nat.le_of_ble_eq_true rfl) dX1_digest_163 ?_
              rintro _ rfl
              refine x_aload_n (pc := 166) F dX1_digest_166 0 rfl rfl ?_
              refine x_aload_n (pc := 167) F dX1_digest_167 0 rfl rfl ?_
              refine gM_length (v := G 10 0) (pc := 168) F hK hin hm_length rfl dX1_digest_168 ?_
              refine x_i2l (v := lN (G 10 0)) (pc := 171) F dX1_digest_171 (nI_l (by omega)) ?_
              refine x_callv (w := wM) (ty := tM) (pc := 172) F hK wM_in [.long (lN (G 10 0))] [] (c_X1_mix l G K0 (mx (mx (mx (mx (mx (mx (dg2 G) ((caV G).toInt64)) (lN (rdN G (G 4 0)))) (lN (leN G 0))) (lN (leN G 1))) ((sp_sm G).toInt64)) (sp_prob G (nI 50))) (lN (G 10 0))) (cwV 1 F.2.2.2.2 gX1_digest_X1_mix rfl rfl rfl (by decide +kernel) ⟨Nat.le_of_ble_eq_true rfl, Nat.le_of_ble_eq_true rfl⟩) rfl rfl rfl rfl (Nat.le_of_ble_eq_true rfl) dX1_digest_172 ?_
              rintro _ rfl
              refine x_iconst (v := nI 0) (pc := 175) F dX1_digest_175 (by decide) ?_
              refine x_istore_n (lv' := [(0, .ref h), (1, .int (nI 0))]) (pc := 176) F dX1_digest_176 rfl (by decide) [1, 0] rfl ?_
              have cut_177 : ∀ (fu : Nat) (i : Nat) (K1 : Nat → Nat), (i ≤ G 10 0) → (G 10 0 - i) < fu → V p l e ({ frames := 4, cells := 0, slots := 0, locals := 97 }) s m args below meth c 2 0 0 Q0 (IC wM D h q cs s (G, K1, miF G (dg3 G) i)) 177 [(0, .ref h), (1, .int (nI i))] [] := by
                intro fu
                induction fu with
                | zero => intro i K1 hi hfu; exact absurd hfu (Nat.not_lt_zero _)
                | succ fu ih_177 =>
                  intro i K1 hi hfu
                  refine x_iload_n (pc := 177) F dX1_digest_177 1 rfl rfl ?_
                  refine x_aload_n (pc := 178) F dX1_digest_178 0 rfl rfl ?_
                  refine gM_length (v := G 10 0) (pc := 179) F hK hin hm_length rfl dX1_digest_179 ?_
                  refine x_icmpN_ge (tgt := 202) (pc := 182) F dX1_digest_182 (by decide) (by omega) (by omega) (fun hc_182 => ?_) (fun hc_182 => ?_)
                  · refine x_aload_n (pc := 202) F dX1_digest_202 0 rfl rfl ?_
                    refine gM_hash (pc := 203) F hK hin hm_hash dX1_digest_203 ?_
                    exact x_retl (w := wM) (ty := tM) (pc := 206) F hK hr hlk hQ0 dX1_digest_206 (⟨_, _, rfl, by rw [show i = G 10 0 by omega]; rfl⟩)
                  · have hv := b10 i (by omega)
                    refine x_aload_n (pc := 185) F dX1_digest_185 0 rfl rfl ?_
                    refine x_aload_n (pc := 186) F dX1_digest_186 0 rfl rfl ?_
                    refine gM_buffer (pc := 187) F hK hin hm_buffer dX1_digest_187 ?_
                    refine x_iload_n (pc := 190) F dX1_digest_190 1 rfl rfl ?_
                    refine lM_buffer (v := G 9 i) (pc := 191) F hK dX1_digest_191 (by omega) rfl ?_
                    refine x_i2l (v := lN (G 9 i)) (pc := 192) F dX1_digest_192 (nI_l (by omega)) ?_
                    refine x_callv (w := wM) (ty := tM) (pc := 193) F hK wM_in [.long (lN (G 9 i))] [] (c_X1_mix l G K1 (miF G (dg3 G) i) (lN (G 9 i))) (cwV 1 F.2.2.2.2 gX1_digest_X1_mix rfl rfl rfl (by decide +kernel) ⟨Nat.le_of_ble_eq_true rfl, Nat.le_of_ble_eq_true rfl⟩) rfl rfl rfl rfl (Nat.le_of_ble_eq_true rfl) dX1_digest_193 ?_
                    rintro _ rfl
                    refine x_iinc (v := nI (i + 1)) (lv' := [(0, .ref h), (1, .int (nI (i + 1)))]) (pc := 196) F dX1_digest_196 1 rfl (nx_inc (b := 1) i (by decide)) (by decide) [1, 0] rfl ?_
                    refine x_goto (tgt := 177) (pc := 199) F dX1_digest_199 (by decide) ?_
                    refine x_lv [0, 1] rfl ?_
                    exact ih_177 (i + 1) K1 (by omega) (by omega)
              refine x_lv [0, 1] rfl ?_
              exact cut_177 ((G 10 0 - 0) + 1) 0 K0 (Nat.zero_le _) (Nat.lt_succ_self _)
            · refine x_aload_n (pc := 98) F dX1_digest_98 0 rfl rfl ?_
              refine x_iload_n (pc := 99) F dX1_digest_99 1 rfl rfl ?_
              refine x_callv (w := wM) (ty := tM) (pc := 100) F hK wM_in [.int (nI i)] [] (c_X1_mixRound l G K1 (mkR G (mcF G (dg1 G) (G 4 0)) i) i (by omega) hG) (cwV 1 F.2.2.2.2 gX1_digest_X1_mixRound rfl rfl rfl (by decide +kernel) ⟨Nat.le_of_ble_eq_true rfl, Nat.le_of_ble_eq_true rfl⟩) rfl rfl rfl rfl (Nat.le_of_ble_eq_true rfl) dX1_digest_100 ?_
              rintro _ ⟨K11, rfl⟩
              refine x_iinc (v := nI (i + 1)) (lv' := [(0, .ref h), (1, .int (nI (i + 1)))]) (pc := 103) F dX1_digest_103 1 rfl (nx_inc (b := 1) i (by decide)) (by decide) [1, 0] rfl ?_
              refine x_goto (tgt := 90) (pc := 106) F dX1_digest_106 (by decide) ?_
              refine x_lv [0, 1] rfl ?_
              exact ih_90 (i + 1) K11 (by omega) (by omega)
        refine x_lv [0, 1] rfl ?_
        exact cut_90 ((G 3 0 + 1 - 0) + 1) 0 K1 (Nat.zero_le _) (Nat.lt_succ_self _)
      · have hj := b8 i (by omega)
        have hds : dsN G i < 100000 := by unfold dsN; omega
        have hbc := bN_lt (crit G i)
        refine x_aload_n (pc := 62) F dX1_digest_62 0 rfl rfl ?_
        refine x_aload_n (pc := 63) F dX1_digest_63 0 rfl rfl ?_
        refine x_iload_n (pc := 64) F dX1_digest_64 1 rfl rfl ?_
        refine x_calli (w := wM) (ty := tM) (pc := 65) F hK wM_in [.int (nI i)] [.ref h] (c_X1_described l G K1 (mcF G (dg1 G) i) i (by omega) hG) (cwV 1 F.2.2.2.2 gX1_digest_X1_described rfl rfl rfl (by decide +kernel) ⟨Nat.le_of_ble_eq_true rfl, Nat.le_of_ble_eq_true rfl⟩) rfl rfl rfl rfl (Nat.le_of_ble_eq_true rfl) dX1_digest_65 ?_
        rintro _ _ ⟨rfl, rfl⟩
        refine x_i2l (v := lN (dsN G i)) (pc := 68) F dX1_digest_68 (nI_l (by omega)) ?_
        refine x_callv (w := wM) (ty := tM) (pc := 69) F hK wM_in [.long (lN (dsN G i))] [] (c_X1_mix l G K1 (mcF G (dg1 G) i) (lN (dsN G i))) (cwV 1 F.2.2.2.2 gX1_digest_X1_mix rfl rfl rfl (by decide +kernel) ⟨Nat.le_of_ble_eq_true rfl, Nat.le_of_ble_eq_true rfl⟩) rfl rfl rfl rfl (Nat.le_of_ble_eq_true rfl) dX1_digest_69 ?_
        rintro _ rfl
        refine x_aload_n (pc := 72) F dX1_digest_72 0 rfl rfl ?_
        refine x_aload_n (pc := 73) F dX1_digest_73 0 rfl rfl ?_
        refine x_iload_n (pc := 74) F dX1_digest_74 1 rfl rfl ?_
        refine x_calli (w := wM) (ty := tM) (pc := 75) F hK wM_in [.int (nI i)] [.ref h] (c_X1_criticalNow l G K1 (mx (mcF G (dg1 G) i) (lN (dsN G i))) i (by omega) hG) (cwV 1 F.2.2.2.2 gX1_digest_X1_criticalNow rfl rfl rfl (by decide +kernel) ⟨Nat.le_of_ble_eq_true rfl, Nat.le_of_ble_eq_true rfl⟩) rfl rfl rfl rfl (Nat.le_of_ble_eq_true rfl) dX1_digest_75 ?_
        rintro _ _ ⟨K4, rfl, rfl⟩
        refine x_i2l (v := lN (bN (crit G i))) (pc := 78) F dX1_digest_78 (nI_l (by omega)) ?_
        refine x_callv (w := wM) (ty := tM) (pc := 79) F hK wM_in [.long (lN (bN (crit G i)))] [] (c_X1_mix l G K4 (mx (mcF G (dg1 G) i) (lN (dsN G i))) (lN (bN (crit G i)))) (cwV 1 F.2.2.2.2 gX1_digest_X1_mix rfl rfl rfl (by decide +kernel) ⟨Nat.le_of_ble_eq_true rfl, Nat.le_of_ble_eq_true rfl⟩) rfl rfl rfl rfl (Nat.le_of_ble_eq_true rfl) dX1_digest_79 ?_
        rintro _ rfl
        refine x_iinc (v := nI (i + 1)) (lv' := [(0, .ref h), (1, .int (nI (i + 1)))]) (pc := 82) F dX1_digest_82 1 rfl (nx_inc (b := 1) i (by decide)) (by decide) [1, 0] rfl ?_
        refine x_goto (tgt := 54) (pc := 85) F dX1_digest_85 (by decide) ?_
        refine x_lv [0, 1] rfl ?_
        exact ih_54 (i + 1) K4 (by omega) (by omega)
  refine x_lv [0, 1] rfl ?_
  exact cut_54 ((G 4 0 - 0) + 1) 0 K (Nat.zero_le _) (Nat.lt_succ_self _)
