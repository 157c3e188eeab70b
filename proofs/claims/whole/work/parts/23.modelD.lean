set_option maxHeartbeats 4000000 in
set_option maxRecDepth 100000 in
theorem c_X1_begin (l : Launch) (G : GS) (K : Nat → Nat) (hs : Int64) : MCv wM tM l yX1_begin wsX1_begin ({ frames := 0, cells := 0, slots := 0, locals := 0 }) [] (G, K, hs) (fun u => u = (G, kb K, hs)) := by
  refine x_startv (cc := cX1_begin) (maxL := 2) (ret := none) (own := RX1) (by decide) rfl rfl (fun _ => Nat.le_of_ble_eq_true rfl) ?_
  intro p e s m args below meth c D h q cs F hK hr hlk Q0 hQ0
  refine x_lv (lv' := [(0, .ref h)]) [0] rfl ?_
  have hin : ∀ w ∈ wsX10, w ∈ wsX1_begin := by decide +kernel
  have hm_known : Cond.fieldLink RX1 30 "GossipScheduleModel" "known" "[I" ∈ wsX1_begin := by decide +kernel
  refine x_iconst (v := nI 0) (pc := 0) F dX1_begin_0 (by decide) ?_
  refine x_istore_n (lv' := [(0, .ref h), (1, .int (nI 0))]) (pc := 1) F dX1_begin_1 rfl (by decide) [1, 0] rfl ?_
  have cut_2 : ∀ (fu : Nat) (i : Nat) (K1 : Nat → Nat), (i ≤ 8) → (∀ p, K1 p = if p < i then 2 ^ p else K p) → (8 - i) < fu → V p l e ({ frames := 0, cells := 0, slots := 0, locals := 0 }) s m args below meth c 2 0 0 Q0 (IC wM D h q cs s (G, K1, hs)) 2 [(0, .ref h), (1, .int (nI i))] [] := by
    intro fu
    induction fu with
    | zero => intro i K1 hi hK1 hfu; exact absurd hfu (Nat.not_lt_zero _)
    | succ fu ih_2 =>
      intro i K1 hi hK1 hfu
      refine x_iload_n (pc := 2) F dX1_begin_2 1 rfl rfl ?_
      refine x_bipush (v := nI 8) (pc := 3) F dX1_begin_3 (by decide) ?_
      refine x_icmpN_ge (tgt := 23) (pc := 5) F dX1_begin_5 (by decide) (by omega) (by decide) (fun hc_5 => ?_) (fun hc_5 => ?_)
      · exact x_retv (w := wM) (ty := tM) (pc := 23) F hK hr hlk hQ0 dX1_begin_23 (by rw [kb_end hK1 (by omega)])
      · refine x_aload_n (pc := 8) F dX1_begin_8 0 rfl rfl ?_
        refine gM_known (pc := 9) F hK hin hm_known dX1_begin_9 ?_
        refine x_iload_n (pc := 12) F dX1_begin_12 1 rfl rfl ?_
        refine x_iconst (v := nI 1) (pc := 13) F dX1_begin_13 (by decide) ?_
        refine x_iload_n (pc := 14) F dX1_begin_14 1 rfl rfl ?_
        refine x_ishl (z := nI (1 * 2 ^ i)) (pc := 15) F dX1_begin_15 (nx_shl (by omega) (two_lt (by omega))) ?_
        refine sM_known (pc := 16) F hK dX1_begin_16 (by omega) ?_
        refine x_iinc (v := nI (i + 1)) (lv' := [(0, .ref h), (1, .int (nI (i + 1)))]) (pc := 17) F dX1_begin_17 1 rfl (nx_inc (b := 1) i (by decide)) (by decide) [1, 0] rfl ?_
        refine x_goto (tgt := 2) (pc := 20) F dX1_begin_20 (by decide) ?_
        refine x_lv [0, 1] rfl ?_
        exact ih_2 (i + 1) (un K1 i (1 * 2 ^ i)) (by omega) (kb_s hK1) (by omega)
  refine x_lv [0, 1] rfl ?_
  exact cut_2 ((8 - 0) + 1) 0 K (Nat.zero_le _) (fun p => (if_neg (Nat.not_lt_zero p)).symm) (Nat.lt_succ_self _)
set_option maxHeartbeats 4000000 in
set_option maxRecDepth 100000 in
theorem c_X1_happens (l : Launch) (G : GS) (K : Nat → Nat) (hs : Int64) (ci : Nat) (hc : ci < G 4 0) (hKb : ∀ p, p < 8 → K p < 256) (hG : ok G) : MCi wM tM l yX1_happens wsX1_happens ({ frames := 0, cells := 0, slots := 0, locals := 0 }) [.int (nI ci)] (G, K, hs) (fun r u => u = (G, stp G ci K, hs) ∧ r = nI (bN (lrn G ci K))) := by
  have hG0 := hG
  obtain ⟨b1, b2, b3, b4, b5, b6, b7, b8, b9, b10, b11⟩ := hG0
  have hj := b8 ci hc
  refine x_starti (cc := cX1_happens) (maxL := 6) (ret := (some .boolean)) (own := RX1) (by decide) rfl rfl (fun _ => Nat.le_of_ble_eq_true rfl) ?_
  intro p e s m args below meth c D h q cs F hK hr hlk Q0 hQ0
  refine x_lv (lv' := [(0, .ref h), (1, .int (nI ci))]) [0, 1] rfl ?_
  have hin : ∀ w ∈ wsX10, w ∈ wsX1_happens := by decide +kernel
  have hm_callerOf : Cond.fieldLink RX1 17 "GossipScheduleModel" "callerOf" "[I" ∈ wsX1_happens := by decide +kernel
  have hm_calleeOf : Cond.fieldLink RX1 20 "GossipScheduleModel" "calleeOf" "[I" ∈ wsX1_happens := by decide +kernel
  have hm_known : Cond.fieldLink RX1 30 "GossipScheduleModel" "known" "[I" ∈ wsX1_happens := by decide +kernel
  have hm_isOneWay : Cond.fieldLink RX1 23 "GossipScheduleModel" "isOneWay" "[Z" ∈ wsX1_happens := by decide +kernel
  refine x_aload_n (pc := 0) F dX1_happens_0 0 rfl rfl ?_
  refine gM_callerOf (pc := 1) F hK hin hm_callerOf dX1_happens_1 ?_
  refine x_iload_n (pc := 4) F dX1_happens_4 1 rfl rfl ?_
  refine lM_callerOf (v := G 6 ci) (pc := 5) F hK dX1_happens_5 (by omega) rfl ?_
  refine x_istore_n (lv' := [(0, .ref h), (1, .int (nI ci)), (2, .int (nI (G 6 ci)))]) (pc := 6) F dX1_happens_6 rfl (by decide) [1, 2, 0] rfl ?_
  refine x_aload_n (pc := 7) F dX1_happens_7 0 rfl rfl ?_
  refine gM_calleeOf (pc := 8) F hK hin hm_calleeOf dX1_happens_8 ?_
  refine x_iload_n (pc := 11) F dX1_happens_11 1 rfl rfl ?_
  refine lM_calleeOf (v := G 7 ci) (pc := 12) F hK dX1_happens_12 (by omega) rfl ?_
  refine x_istore_n (lv' := [(0, .ref h), (1, .int (nI ci)), (2, .int (nI (G 6 ci))), (3, .int (nI (G 7 ci)))]) (pc := 13) F dX1_happens_13 rfl (by decide) [1, 2, 3, 0] rfl ?_
  refine x_aload_n (pc := 14) F dX1_happens_14 0 rfl rfl ?_
  refine gM_known (pc := 15) F hK hin hm_known dX1_happens_15 ?_
  refine x_iload_n (pc := 18) F dX1_happens_18 2 rfl rfl ?_
  refine lM_known (v := K (G 6 ci)) (pc := 19) F hK dX1_happens_19 (by omega) rfl ?_
  refine x_aload_n (pc := 20) F dX1_happens_20 0 rfl rfl ?_
  refine gM_known (pc := 21) F hK hin hm_known dX1_happens_21 ?_
  refine x_iload_n (pc := 24) F dX1_happens_24 3 rfl rfl ?_
  refine lM_known (v := K (G 7 ci)) (pc := 25) F hK dX1_happens_25 (by omega) rfl ?_
  refine x_ior (z := nI ((K (G 6 ci)) ||| (K (G 7 ci)))) (pc := 26) F dX1_happens_26 (nx_or (K (G 6 ci)) (K (G 7 ci))) ?_
  refine x_istore (lv' := [(0, .ref h), (1, .int (nI ci)), (2, .int (nI (G 6 ci))), (3, .int (nI (G 7 ci))), (4, .int (nI ((K (G 6 ci)) ||| (K (G 7 ci)))))]) (pc := 27) F dX1_happens_27 (by decide) [1, 2, 3, 4, 0] rfl ?_
  have h6 := hKb (G 6 ci) (by omega)
  have h7 := hKb (G 7 ci) (by omega)
  have hor : K (G 6 ci) ||| K (G 7 ci) < 256 := Nat.or_lt_two_pow (n := 8) h6 h7
  refine x_aload_n (pc := 29) F dX1_happens_29 0 rfl rfl ?_
  refine gM_known (pc := 30) F hK hin hm_known dX1_happens_30 ?_
  refine x_iload_n (pc := 33) F dX1_happens_33 3 rfl rfl ?_
  refine lM_known (v := K (G 7 ci)) (pc := 34) F hK dX1_happens_34 (by omega) rfl ?_
  refine x_iload (pc := 35) F dX1_happens_35 4 rfl ?_
  refine x_icmpN_ne (tgt := 60) (pc := 37) F dX1_happens_37 (by decide) (by omega) (by omega) (fun hc_37 => ?_) (fun hc_37 => ?_)
  · refine x_iconst (v := nI 1) (pc := 60) F dX1_happens_60 (by decide) ?_
    refine x_goto (tgt := 65) (pc := 61) F dX1_happens_61 (by decide) ?_
    refine x_istore (lv' := [(0, .ref h), (1, .int (nI ci)), (2, .int (nI (G 6 ci))), (3, .int (nI (G 7 ci))), (4, .int (nI ((K (G 6 ci)) ||| (K (G 7 ci))))), (5, .int (nI 1))]) (pc := 65) F dX1_happens_65 (by decide) [1, 2, 3, 4, 5, 0] rfl ?_
    refine x_aload_n (pc := 67) F dX1_happens_67 0 rfl rfl ?_
    refine gM_known (pc := 68) F hK hin hm_known dX1_happens_68 ?_
    refine x_iload_n (pc := 71) F dX1_happens_71 3 rfl rfl ?_
    refine x_iload (pc := 72) F dX1_happens_72 4 rfl ?_
    refine sM_known (pc := 74) F hK dX1_happens_74 (by omega) ?_
    refine x_aload_n (pc := 75) F dX1_happens_75 0 rfl rfl ?_
    refine gM_known (pc := 76) F hK hin hm_known dX1_happens_76 ?_
    refine x_iload_n (pc := 79) F dX1_happens_79 2 rfl rfl ?_
    refine x_aload_n (pc := 80) F dX1_happens_80 0 rfl rfl ?_
    refine gM_isOneWay (pc := 81) F hK hin hm_isOneWay dX1_happens_81 ?_
    refine x_iload_n (pc := 84) F dX1_happens_84 1 rfl rfl ?_
    refine lM_isOneWay (v := G 8 ci) (pc := 85) F hK dX1_happens_85 (by omega) rfl ?_
    refine x_ifN_eq (tgt := 98) (pc := 86) F dX1_happens_86 (by decide) (by omega) (fun hc_86 => ?_) (fun hc_86 => ?_)
    · refine x_iload (pc := 98) F dX1_happens_98 4 rfl ?_
      refine sM_known (pc := 100) F hK dX1_happens_100 (by omega) ?_
      refine x_iload (pc := 101) F dX1_happens_101 5 rfl ?_
      exact x_retz (w := wM) (ty := tM) (pc := 103) F hK hr hlk hQ0 (nar_z _ (by omega)) dX1_happens_103 (⟨by rw [un_stp hj.2.2.2.1 (by rw [if_pos hc_86])], congrArg nI (bN_t (Or.inl hc_37)).symm⟩)
    · refine x_aload_n (pc := 89) F dX1_happens_89 0 rfl rfl ?_
      refine gM_known (pc := 90) F hK hin hm_known dX1_happens_90 ?_
      refine x_iload_n (pc := 93) F dX1_happens_93 2 rfl rfl ?_
      refine lM_known (v := K (G 6 ci)) (pc := 94) F hK dX1_happens_94 (by omega) (if_neg hj.2.2.2.1) ?_
      refine x_goto (tgt := 100) (pc := 95) F dX1_happens_95 (by decide) ?_
      refine sM_known (pc := 100) F hK dX1_happens_100 (by omega) ?_
      refine x_iload (pc := 101) F dX1_happens_101 5 rfl ?_
      exact x_retz (w := wM) (ty := tM) (pc := 103) F hK hr hlk hQ0 (nar_z _ (by omega)) dX1_happens_103 (⟨by rw [un_stp hj.2.2.2.1 (by rw [if_neg hc_86])], congrArg nI (bN_t (Or.inl hc_37)).symm⟩)
  · refine x_aload_n (pc := 40) F dX1_happens_40 0 rfl rfl ?_
    refine gM_isOneWay (pc := 41) F hK hin hm_isOneWay dX1_happens_41 ?_
    refine x_iload_n (pc := 44) F dX1_happens_44 1 rfl rfl ?_
    refine lM_isOneWay (v := G 8 ci) (pc := 45) F hK dX1_happens_45 (by omega) rfl ?_
    refine x_ifN_ne (tgt := 64) (pc := 46) F dX1_happens_46 (by decide) (by omega) (fun hc_46 => ?_) (fun hc_46 => ?_)
    · refine x_iconst (v := nI 0) (pc := 64) F dX1_happens_64 (by decide) ?_
      refine x_istore (lv' := [(0, .ref h), (1, .int (nI ci)), (2, .int (nI (G 6 ci))), (3, .int (nI (G 7 ci))), (4, .int (nI ((K (G 6 ci)) ||| (K (G 7 ci))))), (5, .int (nI 0))]) (pc := 65) F dX1_happens_65 (by decide) [1, 2, 3, 4, 5, 0] rfl ?_
      refine x_aload_n (pc := 67) F dX1_happens_67 0 rfl rfl ?_
      refine gM_known (pc := 68) F hK hin hm_known dX1_happens_68 ?_
      refine x_iload_n (pc := 71) F dX1_happens_71 3 rfl rfl ?_
      refine x_iload (pc := 72) F dX1_happens_72 4 rfl ?_
      refine sM_known (pc := 74) F hK dX1_happens_74 (by omega) ?_
      refine x_aload_n (pc := 75) F dX1_happens_75 0 rfl rfl ?_
      refine gM_known (pc := 76) F hK hin hm_known dX1_happens_76 ?_
      refine x_iload_n (pc := 79) F dX1_happens_79 2 rfl rfl ?_
      refine x_aload_n (pc := 80) F dX1_happens_80 0 rfl rfl ?_
      refine gM_isOneWay (pc := 81) F hK hin hm_isOneWay dX1_happens_81 ?_
      refine x_iload_n (pc := 84) F dX1_happens_84 1 rfl rfl ?_
      refine lM_isOneWay (v := G 8 ci) (pc := 85) F hK dX1_happens_85 (by omega) rfl ?_
      refine x_ifN_eq (tgt := 98) (pc := 86) F dX1_happens_86 (by decide) (by omega) (fun hc_86 => absurd hc_86 (by omega)) (fun hc_86 => ?_)
      refine x_aload_n (pc := 89) F dX1_happens_89 0 rfl rfl ?_
      refine gM_known (pc := 90) F hK hin hm_known dX1_happens_90 ?_
      refine x_iload_n (pc := 93) F dX1_happens_93 2 rfl rfl ?_
      refine lM_known (v := K (G 6 ci)) (pc := 94) F hK dX1_happens_94 (by omega) (if_neg hj.2.2.2.1) ?_
      refine x_goto (tgt := 100) (pc := 95) F dX1_happens_95 (by decide) ?_
      refine sM_known (pc := 100) F hK dX1_happens_100 (by omega) ?_
      refine x_iload (pc := 101) F dX1_happens_101 5 rfl ?_
      exact x_retz (w := wM) (ty := tM) (pc := 103) F hK hr hlk hQ0 (nar_z _ (by omega)) dX1_happens_103 (⟨by rw [un_stp hj.2.2.2.1 (by rw [if_neg hc_86])], congrArg nI (bN_f (fun z => z.elim (fun a => a hc_37) (fun a => hc_46 a.1))).symm⟩)
    · refine x_aload_n (pc := 49) F dX1_happens_49 0 rfl rfl ?_
      refine gM_known (pc := 50) F hK hin hm_known dX1_happens_50 ?_
      refine x_iload_n (pc := 53) F dX1_happens_53 2 rfl rfl ?_
      refine lM_known (v := K (G 6 ci)) (pc := 54) F hK dX1_happens_54 (by omega) rfl ?_
      refine x_iload (pc := 55) F dX1_happens_55 4 rfl ?_
      refine x_icmpN_eq (tgt := 64) (pc := 57) F dX1_happens_57 (by decide) (by omega) (by omega) (fun hc_57 => ?_) (fun hc_57 => ?_)
      · refine x_iconst (v := nI 0) (pc := 64) F dX1_happens_64 (by decide) ?_
        refine x_istore (lv' := [(0, .ref h), (1, .int (nI ci)), (2, .int (nI (G 6 ci))), (3, .int (nI (G 7 ci))), (4, .int (nI ((K (G 6 ci)) ||| (K (G 7 ci))))), (5, .int (nI 0))]) (pc := 65) F dX1_happens_65 (by decide) [1, 2, 3, 4, 5, 0] rfl ?_
        refine x_aload_n (pc := 67) F dX1_happens_67 0 rfl rfl ?_
        refine gM_known (pc := 68) F hK hin hm_known dX1_happens_68 ?_
        refine x_iload_n (pc := 71) F dX1_happens_71 3 rfl rfl ?_
        refine x_iload (pc := 72) F dX1_happens_72 4 rfl ?_
        refine sM_known (pc := 74) F hK dX1_happens_74 (by omega) ?_
        refine x_aload_n (pc := 75) F dX1_happens_75 0 rfl rfl ?_
        refine gM_known (pc := 76) F hK hin hm_known dX1_happens_76 ?_
        refine x_iload_n (pc := 79) F dX1_happens_79 2 rfl rfl ?_
        refine x_aload_n (pc := 80) F dX1_happens_80 0 rfl rfl ?_
        refine gM_isOneWay (pc := 81) F hK hin hm_isOneWay dX1_happens_81 ?_
        refine x_iload_n (pc := 84) F dX1_happens_84 1 rfl rfl ?_
        refine lM_isOneWay (v := G 8 ci) (pc := 85) F hK dX1_happens_85 (by omega) rfl ?_
        refine x_ifN_eq (tgt := 98) (pc := 86) F dX1_happens_86 (by decide) (by omega) (fun hc_86 => ?_) (fun hc_86 => absurd hc_86 (by omega))
        refine x_iload (pc := 98) F dX1_happens_98 4 rfl ?_
        refine sM_known (pc := 100) F hK dX1_happens_100 (by omega) ?_
        refine x_iload (pc := 101) F dX1_happens_101 5 rfl ?_
        exact x_retz (w := wM) (ty := tM) (pc := 103) F hK hr hlk hQ0 (nar_z _ (by omega)) dX1_happens_103 (⟨by rw [un_stp hj.2.2.2.1 (by rw [if_pos hc_86])], congrArg nI (bN_f (fun z => z.elim (fun a => a hc_37) (fun a => a.2 hc_57))).symm⟩)
      · refine x_iconst (v := nI 1) (pc := 60) F dX1_happens_60 (by decide) ?_
        refine x_goto (tgt := 65) (pc := 61) F dX1_happens_61 (by decide) ?_
        refine x_istore (lv' := [(0, .ref h), (1, .int (nI ci)), (2, .int (nI (G 6 ci))), (3, .int (nI (G 7 ci))), (4, .int (nI ((K (G 6 ci)) ||| (K (G 7 ci))))), (5, .int (nI 1))]) (pc := 65) F dX1_happens_65 (by decide) [1, 2, 3, 4, 5, 0] rfl ?_
        refine x_aload_n (pc := 67) F dX1_happens_67 0 rfl rfl ?_
        refine gM_known (pc := 68) F hK hin hm_known dX1_happens_68 ?_
        refine x_iload_n (pc := 71) F dX1_happens_71 3 rfl rfl ?_
        refine x_iload (pc := 72) F dX1_happens_72 4 rfl ?_
        refine sM_known (pc := 74) F hK dX1_happens_74 (by omega) ?_
        refine x_aload_n (pc := 75) F dX1_happens_75 0 rfl rfl ?_
        refine gM_known (pc := 76) F hK hin hm_known dX1_happens_76 ?_
        refine x_iload_n (pc := 79) F dX1_happens_79 2 rfl rfl ?_
        refine x_aload_n (pc := 80) F dX1_happens_80 0 rfl rfl ?_
        refine gM_isOneWay (pc := 81) F hK hin hm_isOneWay dX1_happens_81 ?_
        refine x_iload_n (pc := 84) F dX1_happens_84 1 rfl rfl ?_
        refine lM_isOneWay (v := G 8 ci) (pc := 85) F hK dX1_happens_85 (by omega) rfl ?_
        refine x_ifN_eq (tgt := 98) (pc := 86) F dX1_happens_86 (by decide) (by omega) (fun hc_86 => ?_) (fun hc_86 => absurd hc_86 (by omega))
        refine x_iload (pc := 98) F dX1_happens_98 4 rfl ?_
        refine sM_known (pc := 100) F hK dX1_happens_100 (by omega) ?_
        refine x_iload (pc := 101) F dX1_happens_101 5 rfl ?_
        exact x_retz (w := wM) (ty := tM) (pc := 103) F hK hr hlk hQ0 (nar_z _ (by omega)) dX1_happens_103 (⟨by rw [un_stp hj.2.2.2.1 (by rw [if_pos hc_86])], congrArg nI (bN_t (Or.inr ⟨hc_46, hc_57⟩)).symm⟩)
set_option maxHeartbeats 4000000 in
set_option maxRecDepth 100000 in
theorem c_X1_afterRounds (l : Launch) (G : GS) (K : Nat → Nat) (hs : Int64) (mm : Nat) (hm : mm ≤ 16) (hG : ok G) : MCv wM tM l yX1_afterRounds wsX1_afterRounds ({ frames := 1, cells := 0, slots := 0, locals := 25 }) [.int (nI mm)] (G, K, hs) (fun u => u = (G, krS G (rdF G mm) (kb K) (G 4 0), hs)) := by
  have hG0 := hG
  obtain ⟨b1, b2, b3, b4, b5, b6, b7, b8, b9, b10, b11⟩ := hG0
  refine x_startv (cc := cX1_afterRounds) (maxL := 3) (ret := none) (own := RX1) (by decide) rfl rfl (fun _ => Nat.le_of_ble_eq_true rfl) ?_
  intro p e s m args below meth c D h q cs F hK hr hlk Q0 hQ0
  refine x_lv (lv' := [(0, .ref h), (1, .int (nI mm))]) [0, 1] rfl ?_
  have hin : ∀ w ∈ wsX10, w ∈ wsX1_afterRounds := by decide +kernel
  have hm_calls : Cond.fieldLink RX1 46 "GossipScheduleModel" "calls" "I" ∈ wsX1_afterRounds := by decide +kernel
  have hm_roundOf : Cond.fieldLink RX1 13 "GossipScheduleModel" "roundOf" "[I" ∈ wsX1_afterRounds := by decide +kernel
  refine x_aload_n (pc := 0) F dX1_afterRounds_0 0 rfl rfl ?_
  refine x_callv (w := wM) (ty := tM) (pc := 1) F hK wM_in [] [] (c_X1_begin l G K hs) (cwV 0 F.2.2.2.2 gX1_afterRounds_X1_begin rfl rfl rfl (by decide +kernel) ⟨Nat.le_of_ble_eq_true rfl, Nat.le_of_ble_eq_true rfl⟩) rfl rfl rfl rfl (Nat.le_of_ble_eq_true rfl) dX1_afterRounds_1 ?_
  rintro _ rfl
  refine x_iconst (v := nI 0) (pc := 4) F dX1_afterRounds_4 (by decide) ?_
  refine x_istore_n (lv' := [(0, .ref h), (1, .int (nI mm)), (2, .int (nI 0))]) (pc := 5) F dX1_afterRounds_5 rfl (by decide) [1, 2, 0] rfl ?_
  refine x_I (congrArg (fun g => IC wM D h q cs s (G, g, hs)) (show kb K = krS G (rdF G mm) (kb K) 0 from rfl)) ?_
  have cut_6 : ∀ (fu : Nat) (i : Nat), (i ≤ G 4 0) → (G 4 0 - i) < fu → V p l e ({ frames := 1, cells := 0, slots := 0, locals := 25 }) s m args below meth c 3 0 0 Q0 (IC wM D h q cs s (G, krS G (rdF G mm) (kb K) i, hs)) 6 [(0, .ref h), (1, .int (nI mm)), (2, .int (nI i))] [] := by
    intro fu
    induction fu with
    | zero => intro i hi hfu; exact absurd hfu (Nat.not_lt_zero _)
    | succ fu ih_6 =>
      intro i hi hfu
      refine x_iload_n (pc := 6) F dX1_afterRounds_6 2 rfl rfl ?_
      refine x_aload_n (pc := 7) F dX1_afterRounds_7 0 rfl rfl ?_
      refine gM_calls (v := G 4 0) (pc := 8) F hK hin hm_calls rfl dX1_afterRounds_8 ?_
      refine x_icmpN_ge (tgt := 36) (pc := 11) F dX1_afterRounds_11 (by decide) (by omega) (by omega) (fun hc_11 => ?_) (fun hc_11 => ?_)
      · exact x_retv (w := wM) (ty := tM) (pc := 36) F hK hr hlk hQ0 dX1_afterRounds_36 (by rw [kr_rd hG hi (Or.inl (by omega)) (kb K)])
      · have hj := b8 i (by omega)
        refine x_aload_n (pc := 14) F dX1_afterRounds_14 0 rfl rfl ?_
        refine gM_roundOf (pc := 15) F hK hin hm_roundOf dX1_afterRounds_15 ?_
        refine x_iload_n (pc := 18) F dX1_afterRounds_18 2 rfl rfl ?_
        refine lM_roundOf (v := G 5 i) (pc := 19) F hK dX1_afterRounds_19 (by omega) rfl ?_
        refine x_iload_n (pc := 20) F dX1_afterRounds_20 1 rfl rfl ?_
        refine x_icmpN_ge (tgt := 36) (pc := 21) F dX1_afterRounds_21 (by decide) (by omega) (by omega) (fun hc_21 => ?_) (fun hc_21 => ?_)
        · exact x_retv (w := wM) (ty := tM) (pc := 36) F hK hr hlk hQ0 dX1_afterRounds_36 (by rw [kr_rd hG hi (Or.inr (by omega)) (kb K)])
        · have hKb := krb_c hG (rdF G mm) K (c := i) (by omega)
          refine x_aload_n (pc := 24) F dX1_afterRounds_24 0 rfl rfl ?_
          refine x_iload_n (pc := 25) F dX1_afterRounds_25 2 rfl rfl ?_
          refine x_calli (w := wM) (ty := tM) (pc := 26) F hK wM_in [.int (nI i)] [] (c_X1_happens l G (krS G (rdF G mm) (kb K) i) hs i (by omega) hKb hG) (cwV 1 F.2.2.2.2 gX1_afterRounds_X1_happens rfl rfl rfl (by decide +kernel) ⟨Nat.le_of_ble_eq_true rfl, Nat.le_of_ble_eq_true rfl⟩) rfl rfl rfl rfl (Nat.le_of_ble_eq_true rfl) dX1_afterRounds_26 ?_
          rintro _ _ ⟨rfl, rfl⟩
          refine x_pop (pc := 29) F dX1_afterRounds_29 rfl ?_
          refine x_iinc (v := nI (i + 1)) (lv' := [(0, .ref h), (1, .int (nI mm)), (2, .int (nI (i + 1)))]) (pc := 30) F dX1_afterRounds_30 2 rfl (nx_inc (b := 1) i (by decide)) (by decide) [1, 2, 0] rfl ?_
          refine x_goto (tgt := 6) (pc := 33) F dX1_afterRounds_33 (by decide) ?_
          refine x_I (congrArg (fun g => IC wM D h q cs s (G, g, hs)) (show stp G i (krS G (rdF G mm) (kb K) i) = krS G (rdF G mm) (kb K) (i + 1) from (kr_t (rdF_t hc_21)).symm)) ?_
          refine x_lv [0, 1, 2] rfl ?_
          exact ih_6 (i + 1) (by omega) (by omega)
  refine x_lv [0, 1, 2] rfl ?_
  exact cut_6 ((G 4 0 - 0) + 1) 0 (Nat.zero_le _) (Nat.lt_succ_self _)
set_option maxHeartbeats 4000000 in
set_option maxRecDepth 100000 in
theorem c_X1_isKnown (l : Launch) (G : GS) (K : Nat → Nat) (hs : Int64) (hKb : ∀ p, p < 8 → K p < 256) (h8 : G 0 0 ≤ 8) : MCi wM tM l yX1_isKnown wsX1_isKnown ({ frames := 0, cells := 0, slots := 0, locals := 0 }) [] (G, K, hs) (fun r u => u = (G, K, hs) ∧ r = nI (bN (full (G 0 0) K = true))) := by
  have hpw := Nat.two_pow_pos (G 0 0)
  have hp8 := pow8 h8
  refine x_starti (cc := cX1_isKnown) (maxL := 3) (ret := (some .boolean)) (own := RX1) (by decide) rfl rfl (fun _ => Nat.le_of_ble_eq_true rfl) ?_
  intro p e s m args below meth c D h q cs F hK hr hlk Q0 hQ0
  refine x_lv (lv' := [(0, .ref h)]) [0] rfl ?_
  have hin : ∀ w ∈ wsX10, w ∈ wsX1_isKnown := by decide +kernel
  have hm_persons : Cond.fieldLink RX1 7 "GossipScheduleModel" "persons" "I" ∈ wsX1_isKnown := by decide +kernel
  have hm_known : Cond.fieldLink RX1 30 "GossipScheduleModel" "known" "[I" ∈ wsX1_isKnown := by decide +kernel
  refine x_iconst (v := nI 1) (pc := 0) F dX1_isKnown_0 (by decide) ?_
  refine x_istore_n (lv' := [(0, .ref h), (1, .int (nI 1))]) (pc := 1) F dX1_isKnown_1 rfl (by decide) [1, 0] rfl ?_
  refine x_iconst (v := nI 0) (pc := 2) F dX1_isKnown_2 (by decide) ?_
  refine x_istore_n (lv' := [(0, .ref h), (1, .int (nI 1)), (2, .int (nI 0))]) (pc := 3) F dX1_isKnown_3 rfl (by decide) [1, 2, 0] rfl ?_
  have cut_4 : ∀ (fu : Nat) (i : Nat) (z : Nat), (i ≤ G 0 0) → (z = bN (allB (fun p => decide (K p = 2 ^ G 0 0 - 1)) i = true)) → (z < 2) → (G 0 0 - i) < fu → V p l e ({ frames := 0, cells := 0, slots := 0, locals := 0 }) s m args below meth c 3 0 0 Q0 (IC wM D h q cs s (G, K, hs)) 4 [(0, .ref h), (1, .int (nI z)), (2, .int (nI i))] [] := by
    intro fu
    induction fu with
    | zero => intro i z hi hz hz2 hfu; exact absurd hfu (Nat.not_lt_zero _)
    | succ fu ih_4 =>
      intro i z hi hz hz2 hfu
      refine x_iload_n (pc := 4) F dX1_isKnown_4 2 rfl rfl ?_
      refine x_aload_n (pc := 5) F dX1_isKnown_5 0 rfl rfl ?_
      refine gM_persons (v := G 0 0) (pc := 6) F hK hin hm_persons rfl dX1_isKnown_6 ?_
      refine x_icmpN_ge (tgt := 45) (pc := 9) F dX1_isKnown_9 (by decide) (by omega) (by omega) (fun hc_9 => ?_) (fun hc_9 => ?_)
      · refine x_iload_n (pc := 45) F dX1_isKnown_45 1 rfl rfl ?_
        exact x_retz (w := wM) (ty := tM) (pc := 46) F hK hr hlk hQ0 (nar_z _ (by omega)) dX1_isKnown_46 (⟨rfl, by rw [hz, show i = G 0 0 by omega]; rfl⟩)
      · refine x_iload_n (pc := 12) F dX1_isKnown_12 1 rfl rfl ?_
        refine x_ifN_eq (tgt := 37) (pc := 13) F dX1_isKnown_13 (by decide) (by omega) (fun hc_13 => ?_) (fun hc_13 => ?_)
        · refine x_iconst (v := nI 0) (pc := 37) F dX1_isKnown_37 (by decide) ?_
          refine x_istore_n (lv' := [(0, .ref h), (1, .int (nI 0)), (2, .int (nI i))]) (pc := 38) F dX1_isKnown_38 rfl (by decide) [1, 0, 2] rfl ?_
          refine x_iinc (v := nI (i + 1)) (lv' := [(0, .ref h), (1, .int (nI 0)), (2, .int (nI (i + 1)))]) (pc := 39) F dX1_isKnown_39 2 rfl (nx_inc (b := 1) i (by decide)) (by decide) [1, 2, 0] rfl ?_
          refine x_goto (tgt := 4) (pc := 42) F dX1_isKnown_42 (by decide) ?_
          refine x_lv [0, 1, 2] rfl ?_
          exact ih_4 (i + 1) 0 (by omega) (all_f1 hz hc_13) (by decide) (by omega)
        · have hki := hKb i (by omega)
          refine x_aload_n (pc := 16) F dX1_isKnown_16 0 rfl rfl ?_
          refine gM_known (pc := 17) F hK hin hm_known dX1_isKnown_17 ?_
          refine x_iload_n (pc := 20) F dX1_isKnown_20 2 rfl rfl ?_
          refine lM_known (v := K i) (pc := 21) F hK dX1_isKnown_21 (by omega) rfl ?_
          refine x_iconst (v := nI 1) (pc := 22) F dX1_isKnown_22 (by decide) ?_
          refine x_aload_n (pc := 23) F dX1_isKnown_23 0 rfl rfl ?_
          refine gM_persons (v := G 0 0) (pc := 24) F hK hin hm_persons rfl dX1_isKnown_24 ?_
          refine x_ishl (z := nI (1 * 2 ^ (G 0 0))) (pc := 27) F dX1_isKnown_27 (nx_shl (by omega) (two_12 (by omega))) ?_
          refine x_iconst (v := nI 1) (pc := 28) F dX1_isKnown_28 (by decide) ?_
          refine x_isub (z := nI ((1 * 2 ^ (G 0 0)) - 1)) (pc := 29) F dX1_isKnown_29 (pk_sub (by omega)) ?_
          refine x_icmpN_ne (tgt := 37) (pc := 30) F dX1_isKnown_30 (by decide) (by omega) (by omega) (fun hc_30 => ?_) (fun hc_30 => ?_)
          · refine x_iconst (v := nI 0) (pc := 37) F dX1_isKnown_37 (by decide) ?_
            refine x_istore_n (lv' := [(0, .ref h), (1, .int (nI 0)), (2, .int (nI i))]) (pc := 38) F dX1_isKnown_38 rfl (by decide) [1, 0, 2] rfl ?_
            refine x_iinc (v := nI (i + 1)) (lv' := [(0, .ref h), (1, .int (nI 0)), (2, .int (nI (i + 1)))]) (pc := 39) F dX1_isKnown_39 2 rfl (nx_inc (b := 1) i (by decide)) (by decide) [1, 2, 0] rfl ?_
            refine x_goto (tgt := 4) (pc := 42) F dX1_isKnown_42 (by decide) ?_
            refine x_lv [0, 1, 2] rfl ?_
            exact ih_4 (i + 1) 0 (by omega) (all_f2 (fun z => hc_30 (by rw [Nat.one_mul]; exact of_decide_eq_true z))) (by decide) (by omega)
          · refine x_iconst (v := nI 1) (pc := 33) F dX1_isKnown_33 (by decide) ?_
            refine x_goto (tgt := 38) (pc := 34) F dX1_isKnown_34 (by decide) ?_
            refine x_istore_n (lv' := [(0, .ref h), (1, .int (nI 1)), (2, .int (nI i))]) (pc := 38) F dX1_isKnown_38 rfl (by decide) [1, 0, 2] rfl ?_
            refine x_iinc (v := nI (i + 1)) (lv' := [(0, .ref h), (1, .int (nI 1)), (2, .int (nI (i + 1)))]) (pc := 39) F dX1_isKnown_39 2 rfl (nx_inc (b := 1) i (by decide)) (by decide) [1, 2, 0] rfl ?_
            refine x_goto (tgt := 4) (pc := 42) F dX1_isKnown_42 (by decide) ?_
            refine x_lv [0, 1, 2] rfl ?_
            exact ih_4 (i + 1) 1 (by omega) (all_t hz hc_13 (decide_eq_true (by rw [Nat.one_mul] at hc_30; exact hc_30))) (by decide) (by omega)
  refine x_lv [0, 1, 2] rfl ?_
  exact cut_4 ((G 0 0 - 0) + 1) 0 1 (Nat.zero_le _) rfl (by decide) (Nat.lt_succ_self _)
set_option maxHeartbeats 4000000 in
set_option maxRecDepth 100000 in
theorem c_X1_knowledge (l : Launch) (G : GS) (K : Nat → Nat) (hs : Int64) (x y : Int32) (hG : ok G) : MCi wM tM l yX1_knowledge wsX1_knowledge ({ frames := 2, cells := 0, slots := 0, locals := 47 }) [.int (x), .int (y)] (G, K, hs) (fun r u => ∃ K', u = (G, K', hs) ∧ r = sp_know G x y) := by
  have hG0 := hG
  obtain ⟨b1, b2, b3, b4, b5, b6, b7, b8, b9, b10, b11⟩ := hG0
  refine x_starti (cc := cX1_knowledge) (maxL := 3) (ret := (some .int)) (own := RX1) (by decide) rfl rfl (fun _ => Nat.le_of_ble_eq_true rfl) ?_
  intro p e s m args below meth c D h q cs F hK hr hlk Q0 hQ0
  refine x_lv (lv' := [(0, .ref h), (1, .int (x)), (2, .int (y))]) [0, 1, 2] rfl ?_
  have hin : ∀ w ∈ wsX10, w ∈ wsX1_knowledge := by decide +kernel
  have hm_rounds : Cond.fieldLink RX1 43 "GossipScheduleModel" "rounds" "I" ∈ wsX1_knowledge := by decide +kernel
  have hm_known : Cond.fieldLink RX1 30 "GossipScheduleModel" "known" "[I" ∈ wsX1_knowledge := by decide +kernel
  refine x_aload_n (pc := 0) F dX1_knowledge_0 0 rfl rfl ?_
  refine x_iload_n (pc := 1) F dX1_knowledge_1 1 rfl rfl ?_
  refine x_calli (w := wM) (ty := tM) (pc := 2) F hK wM_in [.int (x)] [] (c_X1_isPerson l G K hs x ((x).toInt) rfl (by omega) (by omega)) (cwV 1 F.2.2.2.2 gX1_knowledge_X1_isPerson rfl rfl rfl (by decide +kernel) ⟨Nat.le_of_ble_eq_true rfl, Nat.le_of_ble_eq_true rfl⟩) rfl rfl rfl rfl (Nat.le_of_ble_eq_true rfl) dX1_knowledge_2 ?_
  rintro _ _ ⟨rfl, rfl⟩
  refine x_ifB_ne (tgt := 11) (pc := 5) F dX1_knowledge_5 (by decide) (fun hc_5 => ?_) (fun hc_5 => ?_)
  · refine x_iload_n (pc := 11) F dX1_knowledge_11 2 rfl rfl ?_
    refine x_iconst (v := nI 0) (pc := 12) F dX1_knowledge_12 (by decide) ?_
    refine x_aload_n (pc := 13) F dX1_knowledge_13 0 rfl rfl ?_
    refine gM_rounds (v := G 3 0) (pc := 14) F hK hin hm_rounds rfl dX1_knowledge_14 ?_
    refine x_scalli (pc := 17) F [.int (y), .int (nI 0), .int (nI (G 3 0))] [] (c_X1_within l y (nI 0) (nI (G 3 0)) ((y).toInt) (((0 : Nat) : Int)) (((G 3 0 : Nat) : Int)) rfl (nI_toInt (by omega)) (nI_toInt (by omega))) (va_cwS 3 F.2.2.2.2 gX1_knowledge_X1_within rfl rfl rfl (by decide +kernel) ⟨Nat.le_of_ble_eq_true rfl, Nat.le_of_ble_eq_true rfl⟩) rfl rfl (Nat.le_of_ble_eq_true rfl) dX1_knowledge_17 ?_
    rintro _ rfl
    refine x_ifB_ne (tgt := 26) (pc := 20) F dX1_knowledge_20 (by decide) (fun hc_20 => ?_) (fun hc_20 => ?_)
    · obtain ⟨ja, h_ja, rfl⟩ := nI_ofR (x := x) (n := G 0 0) (by omega) (by omega)
      have e_ja : (nI ja).toInt = (ja : Int) := nI_toInt (by omega)
      obtain ⟨jb, h_jb, rfl⟩ := nI_ofR (x := y) (n := G 3 0 + 1) (by omega) (by omega)
      have e_jb : (nI jb).toInt = (jb : Int) := nI_toInt (by omega)
      refine x_aload_n (pc := 26) F dX1_knowledge_26 0 rfl rfl ?_
      refine x_iload_n (pc := 27) F dX1_knowledge_27 2 rfl rfl ?_
      refine x_callv (w := wM) (ty := tM) (pc := 28) F hK wM_in [.int (nI jb)] [] (c_X1_afterRounds l G K hs jb (by omega) hG) (cwV 1 F.2.2.2.2 gX1_knowledge_X1_afterRounds rfl rfl rfl (by decide +kernel) ⟨Nat.le_of_ble_eq_true rfl, Nat.le_of_ble_eq_true rfl⟩) rfl rfl rfl rfl (Nat.le_of_ble_eq_true rfl) dX1_knowledge_28 ?_
      rintro _ rfl
      refine x_aload_n (pc := 31) F dX1_knowledge_31 0 rfl rfl ?_
      refine gM_known (pc := 32) F hK hin hm_known dX1_knowledge_32 ?_
      refine x_iload_n (pc := 35) F dX1_knowledge_35 1 rfl rfl ?_
      refine lM_known (v := (krS G (rdF G jb) (kb K) (G 4 0)) ja) (pc := 36) F hK dX1_knowledge_36 (by omega) rfl ?_
      exact x_reti (w := wM) (ty := tM) (pc := 37) F hK hr hlk hQ0 dX1_knowledge_37 (⟨_, rfl, by rw [sp_know, if_pos (by unfold inR; omega), if_pos (by omega), toNat_nI (by omega), toNat_nI (by omega), krb hG _ K ja (by omega)]⟩)
    · refine x_bipush (v := -5) (pc := 23) F dX1_knowledge_23 (by decide) ?_
      exact x_reti (w := wM) (ty := tM) (pc := 25) F hK hr hlk hQ0 dX1_knowledge_25 (⟨K, rfl, by rw [sp_know, if_pos (by unfold inR; omega), if_neg (by omega)]⟩)
  · refine x_bipush (v := -6) (pc := 8) F dX1_knowledge_8 (by decide) ?_
    exact x_reti (w := wM) (ty := tM) (pc := 10) F hK hr hlk hQ0 dX1_knowledge_10 (⟨K, rfl, by rw [sp_know, if_neg (by unfold inR; omega)]⟩)
set_option maxHeartbeats 4000000 in
set_option maxRecDepth 100000 in
theorem c_X1_completeNow (l : Launch) (G : GS) (K : Nat → Nat) (hs : Int64) (hG : ok G) : MCi wM tM l yX1_completeNow wsX1_completeNow ({ frames := 2, cells := 0, slots := 0, locals := 47 }) [] (G, K, hs) (fun r u => ∃ K', u = (G, K', hs) ∧ r = caV G) := by
  have hG0 := hG
  obtain ⟨b1, b2, b3, b4, b5, b6, b7, b8, b9, b10, b11⟩ := hG0
  refine x_starti (cc := cX1_completeNow) (maxL := 2) (ret := (some .int)) (own := RX1) (by decide) rfl rfl (fun _ => Nat.le_of_ble_eq_true rfl) ?_
  intro p e s m args below meth c D h q cs F hK hr hlk Q0 hQ0
  refine x_lv (lv' := [(0, .ref h)]) [0] rfl ?_
  have hin : ∀ w ∈ wsX10, w ∈ wsX1_completeNow := by decide +kernel
  have hm_rounds : Cond.fieldLink RX1 43 "GossipScheduleModel" "rounds" "I" ∈ wsX1_completeNow := by decide +kernel
  refine x_iconst (v := nI 0) (pc := 0) F dX1_completeNow_0 (by decide) ?_
  refine x_istore_n (lv' := [(0, .ref h), (1, .int (nI 0))]) (pc := 1) F dX1_completeNow_1 rfl (by decide) [1, 0] rfl ?_
  have cut_2 : ∀ (fu : Nat) (i : Nat) (K1 : Nat → Nat), (i ≤ G 3 0 + 1) → (caN G (G 3 0 + 1 - i) i = caN G (G 3 0 + 1) 0) → (G 3 0 + 1 - i) < fu → V p l e ({ frames := 2, cells := 0, slots := 0, locals := 47 }) s m args below meth c 2 0 0 Q0 (IC wM D h q cs s (G, K1, hs)) 2 [(0, .ref h), (1, .int (nI i))] [] := by
    intro fu
    induction fu with
    | zero => intro i K1 hi hca hfu; exact absurd hfu (Nat.not_lt_zero _)
    | succ fu ih_2 =>
      intro i K1 hi hca hfu
      refine x_iload_n (pc := 2) F dX1_completeNow_2 1 rfl rfl ?_
      refine x_aload_n (pc := 3) F dX1_completeNow_3 0 rfl rfl ?_
      refine gM_rounds (v := G 3 0) (pc := 4) F hK hin hm_rounds rfl dX1_completeNow_4 ?_
      refine x_icmpN_gt (tgt := 30) (pc := 7) F dX1_completeNow_7 (by decide) (by omega) (by omega) (fun hc_7 => ?_) (fun hc_7 => ?_)
      · refine x_iconst (v := -1) (pc := 30) F dX1_completeNow_30 (by decide) ?_
        exact x_reti (w := wM) (ty := tM) (pc := 31) F hK hr hlk hQ0 dX1_completeNow_31 (⟨K1, rfl, by rw [caV, ← hca, show G 3 0 + 1 - i = 0 by omega]; rfl⟩)
      · refine x_aload_n (pc := 10) F dX1_completeNow_10 0 rfl rfl ?_
        refine x_iload_n (pc := 11) F dX1_completeNow_11 1 rfl rfl ?_
        refine x_callv (w := wM) (ty := tM) (pc := 12) F hK wM_in [.int (nI i)] [] (c_X1_afterRounds l G K1 hs i (by omega) hG) (cwV 1 F.2.2.2.2 gX1_completeNow_X1_afterRounds rfl rfl rfl (by decide +kernel) ⟨Nat.le_of_ble_eq_true rfl, Nat.le_of_ble_eq_true rfl⟩) rfl rfl rfl rfl (Nat.le_of_ble_eq_true rfl) dX1_completeNow_12 ?_
        rintro _ rfl
        have hKb := krb_c hG (rdF G i) K1 (c := G 4 0) (Nat.le_refl _)
        refine x_aload_n (pc := 15) F dX1_completeNow_15 0 rfl rfl ?_
        refine x_calli (w := wM) (ty := tM) (pc := 16) F hK wM_in [] [] (c_X1_isKnown l G (krS G (rdF G i) (kb K1) (G 4 0)) hs hKb (by omega)) (cwV 0 F.2.2.2.2 gX1_completeNow_X1_isKnown rfl rfl rfl (by decide +kernel) ⟨Nat.le_of_ble_eq_true rfl, Nat.le_of_ble_eq_true rfl⟩) rfl rfl rfl rfl (Nat.le_of_ble_eq_true rfl) dX1_completeNow_16 ?_
        rintro _ _ ⟨rfl, rfl⟩
        refine x_ifB_eq (tgt := 24) (pc := 19) F dX1_completeNow_19 (by decide) (fun hc_19 => ?_) (fun hc_19 => ?_)
        · refine x_iinc (v := nI (i + 1)) (lv' := [(0, .ref h), (1, .int (nI (i + 1)))]) (pc := 24) F dX1_completeNow_24 1 rfl (nx_inc (b := 1) i (by decide)) (by decide) [1, 0] rfl ?_
          refine x_goto (tgt := 2) (pc := 27) F dX1_completeNow_27 (by decide) ?_
          refine x_lv [0, 1] rfl ?_
          exact ih_2 (i + 1) (krS G (rdF G i) (kb K1) (G 4 0)) (by omega) ((caN_next (by omega) (by rw [full_b hG] at hc_19; exact hc_19)).trans hca) (by omega)
        · refine x_iload_n (pc := 22) F dX1_completeNow_22 1 rfl rfl ?_
          exact x_reti (w := wM) (ty := tM) (pc := 23) F hK hr hlk hQ0 dX1_completeNow_23 (⟨_, rfl, by rw [full_b hG] at hc_19; rw [caV, ← hca, caN_at (by omega) hc_19]⟩)
  refine x_lv [0, 1] rfl ?_
  exact cut_2 ((G 3 0 + 1 - 0) + 1) 0 K (Nat.zero_le _) rfl (Nat.lt_succ_self _)
set_option maxHeartbeats 4000000 in
set_option maxRecDepth 100000 in
theorem c_X1_completeAfter (l : Launch) (G : GS) (K : Nat → Nat) (hs : Int64) (hG : ok G) : MCi wM tM l yX1_completeAfter wsX1_completeAfter ({ frames := 3, cells := 0, slots := 0, locals := 68 }) [] (G, K, hs) (fun r u => ∃ K', u = (G, K', hs) ∧ r = caV G) := by
  refine x_starti (cc := cX1_completeAfter) (maxL := 1) (ret := (some .int)) (own := RX1) (by decide) rfl rfl (fun _ => Nat.le_of_ble_eq_true rfl) ?_
  intro p e s m args below meth c D h q cs F hK hr hlk Q0 hQ0
  refine x_lv (lv' := [(0, .ref h)]) [0] rfl ?_
  refine x_aload_n (pc := 0) F dX1_completeAfter_0 0 rfl rfl ?_
  refine x_calli (w := wM) (ty := tM) (pc := 1) F hK wM_in [] [] (c_X1_completeNow l G K hs hG) (cwV 0 F.2.2.2.2 gX1_completeAfter_X1_completeNow rfl rfl rfl (by decide +kernel) ⟨Nat.le_of_ble_eq_true rfl, Nat.le_of_ble_eq_true rfl⟩) rfl rfl rfl rfl (Nat.le_of_ble_eq_true rfl) dX1_completeAfter_1 ?_
  rintro _ _ ⟨K8, rfl, rfl⟩
  exact x_reti (w := wM) (ty := tM) (pc := 4) F hK hr hlk hQ0 dX1_completeAfter_4 (⟨K8, rfl, rfl⟩)
set_option maxHeartbeats 4000000 in
set_option maxRecDepth 100000 in
theorem c_X1_redundantNow (l : Launch) (G : GS) (K : Nat → Nat) (hs : Int64) (hG : ok G) : MCi wM tM l yX1_redundantNow wsX1_redundantNow ({ frames := 1, cells := 0, slots := 0, locals := 25 }) [] (G, K, hs) (fun r u => ∃ K', u = (G, K', hs) ∧ r = nI (rdN G (G 4 0))) := by
  have hG0 := hG
  obtain ⟨b1, b2, b3, b4, b5, b6, b7, b8, b9, b10, b11⟩ := hG0
  refine x_starti (cc := cX1_redundantNow) (maxL := 3) (ret := (some .int)) (own := RX1) (by decide) rfl rfl (fun _ => Nat.le_of_ble_eq_true rfl) ?_
  intro p e s m args below meth c D h q cs F hK hr hlk Q0 hQ0
  refine x_lv (lv' := [(0, .ref h)]) [0] rfl ?_
  have hin : ∀ w ∈ wsX10, w ∈ wsX1_redundantNow := by decide +kernel
  have hm_calls : Cond.fieldLink RX1 46 "GossipScheduleModel" "calls" "I" ∈ wsX1_redundantNow := by decide +kernel
  refine x_iconst (v := nI 0) (pc := 0) F dX1_redundantNow_0 (by decide) ?_
  refine x_istore_n (lv' := [(0, .ref h), (1, .int (nI 0))]) (pc := 1) F dX1_redundantNow_1 rfl (by decide) [1, 0] rfl ?_
  refine x_aload_n (pc := 2) F dX1_redundantNow_2 0 rfl rfl ?_
  refine x_callv (w := wM) (ty := tM) (pc := 3) F hK wM_in [] [] (c_X1_begin l G K hs) (cwV 0 F.2.2.2.2 gX1_redundantNow_X1_begin rfl rfl rfl (by decide +kernel) ⟨Nat.le_of_ble_eq_true rfl, Nat.le_of_ble_eq_true rfl⟩) rfl rfl rfl rfl (Nat.le_of_ble_eq_true rfl) dX1_redundantNow_3 ?_
  rintro _ rfl
  refine x_iconst (v := nI 0) (pc := 6) F dX1_redundantNow_6 (by decide) ?_
  refine x_istore_n (lv' := [(0, .ref h), (1, .int (nI 0)), (2, .int (nI 0))]) (pc := 7) F dX1_redundantNow_7 rfl (by decide) [1, 2, 0] rfl ?_
  refine x_I (congrArg (fun g => IC wM D h q cs s (G, g, hs)) (show kb K = krS G allT (kb K) 0 from rfl)) ?_
  have cut_8 : ∀ (fu : Nat) (i : Nat) (rn : Nat), (i ≤ G 4 0) → (rn = rdN G i) → (G 4 0 - i) < fu → V p l e ({ frames := 1, cells := 0, slots := 0, locals := 25 }) s m args below meth c 3 0 0 Q0 (IC wM D h q cs s (G, krS G allT (kb K) i, hs)) 8 [(0, .ref h), (1, .int (nI rn)), (2, .int (nI i))] [] := by
    intro fu
    induction fu with
    | zero => intro i rn hi hrn hfu; exact absurd hfu (Nat.not_lt_zero _)
    | succ fu ih_8 =>
      intro i rn hi hrn hfu
      refine x_iload_n (pc := 8) F dX1_redundantNow_8 2 rfl rfl ?_
      refine x_aload_n (pc := 9) F dX1_redundantNow_9 0 rfl rfl ?_
      refine gM_calls (v := G 4 0) (pc := 10) F hK hin hm_calls rfl dX1_redundantNow_10 ?_
      refine x_icmpN_ge (tgt := 38) (pc := 13) F dX1_redundantNow_13 (by decide) (by omega) (by omega) (fun hc_13 => ?_) (fun hc_13 => ?_)
      · refine x_iload_n (pc := 38) F dX1_redundantNow_38 1 rfl rfl ?_
        exact x_reti (w := wM) (ty := tM) (pc := 39) F hK hr hlk hQ0 dX1_redundantNow_39 (⟨_, rfl, by rw [hrn, show i = G 4 0 by omega]⟩)
      · have hKb := krb_c hG allT K (c := i) (by omega)
        refine x_iload_n (pc := 16) F dX1_redundantNow_16 1 rfl rfl ?_
        refine x_aload_n (pc := 17) F dX1_redundantNow_17 0 rfl rfl ?_
        refine x_iload_n (pc := 18) F dX1_redundantNow_18 2 rfl rfl ?_
        refine x_calli (w := wM) (ty := tM) (pc := 19) F hK wM_in [.int (nI i)] [.int (nI rn)] (c_X1_happens l G (krS G allT (kb K) i) hs i (by omega) hKb hG) (cwV 1 F.2.2.2.2 gX1_redundantNow_X1_happens rfl rfl rfl (by decide +kernel) ⟨Nat.le_of_ble_eq_true rfl, Nat.le_of_ble_eq_true rfl⟩) rfl rfl rfl rfl (Nat.le_of_ble_eq_true rfl) dX1_redundantNow_19 ?_
        rintro _ _ ⟨rfl, rfl⟩
        refine x_ifB_eq (tgt := 29) (pc := 22) F dX1_redundantNow_22 (by decide) (fun hc_22 => ?_) (fun hc_22 => ?_)
        · refine x_iconst (v := nI 1) (pc := 29) F dX1_redundantNow_29 (by decide) ?_
          refine x_iadd (z := nI (rn + 1)) (pc := 30) F dX1_redundantNow_30 (nI_add rn 1) ?_
          refine x_istore_n (lv' := [(0, .ref h), (1, .int (nI (rn + 1))), (2, .int (nI i))]) (pc := 31) F dX1_redundantNow_31 rfl (by decide) [1, 0, 2] rfl ?_
          refine x_iinc (v := nI (i + 1)) (lv' := [(0, .ref h), (1, .int (nI (rn + 1))), (2, .int (nI (i + 1)))]) (pc := 32) F dX1_redundantNow_32 2 rfl (nx_inc (b := 1) i (by decide)) (by decide) [1, 2, 0] rfl ?_
          refine x_goto (tgt := 8) (pc := 35) F dX1_redundantNow_35 (by decide) ?_
          refine x_I (congrArg (fun g => IC wM D h q cs s (G, g, hs)) (show stp G i (krS G allT (kb K) i) = krS G allT (kb K) (i + 1) from (kr_t rfl).symm)) ?_
          refine x_lv [0, 1, 2] rfl ?_
          exact ih_8 (i + 1) (rn + 1) (by omega) (rdN_f hrn (fun z => hc_22 ((lrn_on hG K (by omega)).mpr z))) (by omega)
        · refine x_iconst (v := nI 0) (pc := 25) F dX1_redundantNow_25 (by decide) ?_
          refine x_goto (tgt := 30) (pc := 26) F dX1_redundantNow_26 (by decide) ?_
          refine x_iadd (z := nI (rn + 0)) (pc := 30) F dX1_redundantNow_30 (nI_add rn 0) ?_
          refine x_istore_n (lv' := [(0, .ref h), (1, .int (nI (rn + 0))), (2, .int (nI i))]) (pc := 31) F dX1_redundantNow_31 rfl (by decide) [1, 0, 2] rfl ?_
          refine x_iinc (v := nI (i + 1)) (lv' := [(0, .ref h), (1, .int (nI (rn + 0))), (2, .int (nI (i + 1)))]) (pc := 32) F dX1_redundantNow_32 2 rfl (nx_inc (b := 1) i (by decide)) (by decide) [1, 2, 0] rfl ?_
          refine x_goto (tgt := 8) (pc := 35) F dX1_redundantNow_35 (by decide) ?_
          refine x_I (congrArg (fun g => IC wM D h q cs s (G, g, hs)) (show stp G i (krS G allT (kb K) i) = krS G allT (kb K) (i + 1) from (kr_t rfl).symm)) ?_
          refine x_lv [0, 1, 2] rfl ?_
          exact ih_8 (i + 1) (rn + 0) (by omega) (rdN_t hrn ((lrn_on hG K (by omega)).mp hc_22)) (by omega)
  refine x_lv [0, 1, 2] rfl ?_
  exact cut_8 ((G 4 0 - 0) + 1) 0 0 (Nat.zero_le _) rfl (Nat.lt_succ_self _)
set_option maxHeartbeats 4000000 in
set_option maxRecDepth 100000 in
theorem c_X1_redundantCalls (l : Launch) (G : GS) (K : Nat → Nat) (hs : Int64) (hG : ok G) : MCi wM tM l yX1_redundantCalls wsX1_redundantCalls ({ frames := 2, cells := 0, slots := 0, locals := 47 }) [] (G, K, hs) (fun r u => ∃ K', u = (G, K', hs) ∧ r = nI (rdN G (G 4 0))) := by
  refine x_starti (cc := cX1_redundantCalls) (maxL := 1) (ret := (some .int)) (own := RX1) (by decide) rfl rfl (fun _ => Nat.le_of_ble_eq_true rfl) ?_
  intro p e s m args below meth c D h q cs F hK hr hlk Q0 hQ0
  refine x_lv (lv' := [(0, .ref h)]) [0] rfl ?_
  refine x_aload_n (pc := 0) F dX1_redundantCalls_0 0 rfl rfl ?_
  refine x_calli (w := wM) (ty := tM) (pc := 1) F hK wM_in [] [] (c_X1_redundantNow l G K hs hG) (cwV 0 F.2.2.2.2 gX1_redundantCalls_X1_redundantNow rfl rfl rfl (by decide +kernel) ⟨Nat.le_of_ble_eq_true rfl, Nat.le_of_ble_eq_true rfl⟩) rfl rfl rfl rfl (Nat.le_of_ble_eq_true rfl) dX1_redundantCalls_1 ?_
  rintro _ _ ⟨K7, rfl, rfl⟩
  exact x_reti (w := wM) (ty := tM) (pc := 4) F hK hr hlk hQ0 dX1_redundantCalls_4 (⟨K7, rfl, rfl⟩)
set_option maxHeartbeats 4000000 in
set_option maxRecDepth 100000 in
theorem c_X1_suffices (l : Launch) (G : GS) (K : Nat → Nat) (hs : Int64) (sN : Nat) (hsN : sN < 2 ^ 28) (hG : ok G) : MCi wM tM l yX1_suffices wsX1_suffices ({ frames := 1, cells := 0, slots := 0, locals := 25 }) [.int (nI sN)] (G, K, hs) (fun r u => ∃ K', u = (G, K', hs) ∧ r = nI (bN (cmp G (tbF sN) = true))) := by
  have hG0 := hG
  obtain ⟨b1, b2, b3, b4, b5, b6, b7, b8, b9, b10, b11⟩ := hG0
  refine x_starti (cc := cX1_suffices) (maxL := 3) (ret := (some .boolean)) (own := RX1) (by decide) rfl rfl (fun _ => Nat.le_of_ble_eq_true rfl) ?_
  intro p e s m args below meth c D h q cs F hK hr hlk Q0 hQ0
  refine x_lv (lv' := [(0, .ref h), (1, .int (nI sN))]) [0, 1] rfl ?_
  have hin : ∀ w ∈ wsX10, w ∈ wsX1_suffices := by decide +kernel
  have hm_calls : Cond.fieldLink RX1 46 "GossipScheduleModel" "calls" "I" ∈ wsX1_suffices := by decide +kernel
  refine x_aload_n (pc := 0) F dX1_suffices_0 0 rfl rfl ?_
  refine x_callv (w := wM) (ty := tM) (pc := 1) F hK wM_in [] [] (c_X1_begin l G K hs) (cwV 0 F.2.2.2.2 gX1_suffices_X1_begin rfl rfl rfl (by decide +kernel) ⟨Nat.le_of_ble_eq_true rfl, Nat.le_of_ble_eq_true rfl⟩) rfl rfl rfl rfl (Nat.le_of_ble_eq_true rfl) dX1_suffices_1 ?_
  rintro _ rfl
  refine x_iconst (v := nI 0) (pc := 4) F dX1_suffices_4 (by decide) ?_
  refine x_istore_n (lv' := [(0, .ref h), (1, .int (nI sN)), (2, .int (nI 0))]) (pc := 5) F dX1_suffices_5 rfl (by decide) [1, 2, 0] rfl ?_
  refine x_I (congrArg (fun g => IC wM D h q cs s (G, g, hs)) (show kb K = krS G (tbF sN) (kb K) 0 from rfl)) ?_
  have cut_6 : ∀ (fu : Nat) (i : Nat), (i ≤ G 4 0) → (G 4 0 - i) < fu → V p l e ({ frames := 1, cells := 0, slots := 0, locals := 25 }) s m args below meth c 3 0 0 Q0 (IC wM D h q cs s (G, krS G (tbF sN) (kb K) i, hs)) 6 [(0, .ref h), (1, .int (nI sN)), (2, .int (nI i))] [] := by
    intro fu
    induction fu with
    | zero => intro i hi hfu; exact absurd hfu (Nat.not_lt_zero _)
    | succ fu ih_6 =>
      intro i hi hfu
      refine x_iload_n (pc := 6) F dX1_suffices_6 2 rfl rfl ?_
      refine x_aload_n (pc := 7) F dX1_suffices_7 0 rfl rfl ?_
      refine gM_calls (v := G 4 0) (pc := 8) F hK hin hm_calls rfl dX1_suffices_8 ?_
      refine x_icmpN_ge (tgt := 35) (pc := 11) F dX1_suffices_11 (by decide) (by omega) (by omega) (fun hc_11 => ?_) (fun hc_11 => ?_)
      · have hKb := krb_c hG (tbF sN) K (c := i) (by omega)
        refine x_aload_n (pc := 35) F dX1_suffices_35 0 rfl rfl ?_
        refine x_calli (w := wM) (ty := tM) (pc := 36) F hK wM_in [] [] (c_X1_isKnown l G (krS G (tbF sN) (kb K) i) hs hKb (by omega)) (cwV 0 F.2.2.2.2 gX1_suffices_X1_isKnown rfl rfl rfl (by decide +kernel) ⟨Nat.le_of_ble_eq_true rfl, Nat.le_of_ble_eq_true rfl⟩) rfl rfl rfl rfl (Nat.le_of_ble_eq_true rfl) dX1_suffices_36 ?_
        rintro _ _ ⟨rfl, rfl⟩
        exact x_retz (w := wM) (ty := tM) (pc := 39) F hK hr hlk hQ0 (nar_z _ (bN_lt _)) dX1_suffices_39 (⟨_, rfl, by rw [show i = G 4 0 by omega, full_b hG]⟩)
      · refine x_iload_n (pc := 14) F dX1_suffices_14 1 rfl rfl ?_
        refine x_iload_n (pc := 15) F dX1_suffices_15 2 rfl rfl ?_
        refine x_ishr (z := nI (sN / 2 ^ i)) (pc := 16) F dX1_suffices_16 (nx_shr (by omega) (by omega)) ?_
        refine x_iconst (v := nI 1) (pc := 17) F dX1_suffices_17 (by decide) ?_
        refine x_iand (z := nI ((sN / 2 ^ i) &&& 1)) (pc := 18) F dX1_suffices_18 (nx_and (sN / 2 ^ i) 1) ?_
        refine x_iconst (v := nI 1) (pc := 19) F dX1_suffices_19 (by decide) ?_
        refine x_icmpN_ne (tgt := 29) (pc := 20) F dX1_suffices_20 (by decide) (and1_lt _) (by decide) (fun hc_20 => ?_) (fun hc_20 => ?_)
        · refine x_iinc (v := nI (i + 1)) (lv' := [(0, .ref h), (1, .int (nI sN)), (2, .int (nI (i + 1)))]) (pc := 29) F dX1_suffices_29 2 rfl (nx_inc (b := 1) i (by decide)) (by decide) [1, 2, 0] rfl ?_
          refine x_goto (tgt := 6) (pc := 32) F dX1_suffices_32 (by decide) ?_
          refine x_I (congrArg (fun g => IC wM D h q cs s (G, g, hs)) (show krS G (tbF sN) (kb K) i = krS G (tbF sN) (kb K) (i + 1) from (kr_f (fun z => hc_20 ((and1_tb sN i).mpr z))).symm)) ?_
          refine x_lv [0, 1, 2] rfl ?_
          exact ih_6 (i + 1) (by omega) (by omega)
        · have hKb := krb_c hG (tbF sN) K (c := i) (by omega)
          refine x_aload_n (pc := 23) F dX1_suffices_23 0 rfl rfl ?_
          refine x_iload_n (pc := 24) F dX1_suffices_24 2 rfl rfl ?_
          refine x_calli (w := wM) (ty := tM) (pc := 25) F hK wM_in [.int (nI i)] [] (c_X1_happens l G (krS G (tbF sN) (kb K) i) hs i (by omega) hKb hG) (cwV 1 F.2.2.2.2 gX1_suffices_X1_happens rfl rfl rfl (by decide +kernel) ⟨Nat.le_of_ble_eq_true rfl, Nat.le_of_ble_eq_true rfl⟩) rfl rfl rfl rfl (Nat.le_of_ble_eq_true rfl) dX1_suffices_25 ?_
          rintro _ _ ⟨rfl, rfl⟩
          refine x_pop (pc := 28) F dX1_suffices_28 rfl ?_
          refine x_iinc (v := nI (i + 1)) (lv' := [(0, .ref h), (1, .int (nI sN)), (2, .int (nI (i + 1)))]) (pc := 29) F dX1_suffices_29 2 rfl (nx_inc (b := 1) i (by decide)) (by decide) [1, 2, 0] rfl ?_
          refine x_goto (tgt := 6) (pc := 32) F dX1_suffices_32 (by decide) ?_
          refine x_I (congrArg (fun g => IC wM D h q cs s (G, g, hs)) (show stp G i (krS G (tbF sN) (kb K) i) = krS G (tbF sN) (kb K) (i + 1) from (kr_t ((and1_tb sN i).mp hc_20)).symm)) ?_
          refine x_lv [0, 1, 2] rfl ?_
          exact ih_6 (i + 1) (by omega) (by omega)
  refine x_lv [0, 1, 2] rfl ?_
  exact cut_6 ((G 4 0 - 0) + 1) 0 (Nat.zero_le _) (Nat.lt_succ_self _)
set_option maxHeartbeats 4000000 in
set_option maxRecDepth 100000 in
theorem c_X1_isComplete (l : Launch) (G : GS) (K : Nat → Nat) (hs : Int64) (hG : ok G) : MCi wM tM l yX1_isComplete wsX1_isComplete ({ frames := 2, cells := 0, slots := 0, locals := 47 }) [] (G, K, hs) (fun r u => ∃ K', u = (G, K', hs) ∧ r = nI (bN (cmp G allT = true))) := by
  have hG0 := hG
  obtain ⟨b1, b2, b3, b4, b5, b6, b7, b8, b9, b10, b11⟩ := hG0
  have hpw := Nat.two_pow_pos (G 4 0)
  have hp28 : 2 ^ G 4 0 ≤ 2 ^ 28 := Nat.pow_le_pow_right (by decide) b6
  refine x_starti (cc := cX1_isComplete) (maxL := 1) (ret := (some .boolean)) (own := RX1) (by decide) rfl rfl (fun _ => Nat.le_of_ble_eq_true rfl) ?_
  intro p e s m args below meth c D h q cs F hK hr hlk Q0 hQ0
  refine x_lv (lv' := [(0, .ref h)]) [0] rfl ?_
  have hin : ∀ w ∈ wsX10, w ∈ wsX1_isComplete := by decide +kernel
  have hm_calls : Cond.fieldLink RX1 46 "GossipScheduleModel" "calls" "I" ∈ wsX1_isComplete := by decide +kernel
  refine x_aload_n (pc := 0) F dX1_isComplete_0 0 rfl rfl ?_
  refine x_iconst (v := nI 1) (pc := 1) F dX1_isComplete_1 (by decide) ?_
  refine x_aload_n (pc := 2) F dX1_isComplete_2 0 rfl rfl ?_
  refine gM_calls (v := G 4 0) (pc := 3) F hK hin hm_calls rfl dX1_isComplete_3 ?_
  refine x_ishl (z := nI (1 * 2 ^ (G 4 0))) (pc := 6) F dX1_isComplete_6 (nx_shl (by omega) (two_12 (by omega))) ?_
  refine x_iconst (v := nI 1) (pc := 7) F dX1_isComplete_7 (by decide) ?_
  refine x_isub (z := nI ((1 * 2 ^ (G 4 0)) - 1)) (pc := 8) F dX1_isComplete_8 (pk_sub (by omega)) ?_
  refine x_calli (w := wM) (ty := tM) (pc := 9) F hK wM_in [.int (nI ((1 * 2 ^ (G 4 0)) - 1))] [] (c_X1_suffices l G K hs ((1 * 2 ^ (G 4 0)) - 1) (by omega) hG) (cwV 1 F.2.2.2.2 gX1_isComplete_X1_suffices rfl rfl rfl (by decide +kernel) ⟨Nat.le_of_ble_eq_true rfl, Nat.le_of_ble_eq_true rfl⟩) rfl rfl rfl rfl (Nat.le_of_ble_eq_true rfl) dX1_isComplete_9 ?_
  rintro _ _ ⟨K6, rfl, rfl⟩
  exact x_retz (w := wM) (ty := tM) (pc := 12) F hK hr hlk hQ0 (nar_z _ (bN_lt _)) dX1_isComplete_12 (⟨K6, rfl, by rw [show cmp G (tbF (1 * 2 ^ G 4 0 - 1)) = cmp G allT from cmp_cong (fun i hi => by rw [Nat.one_mul]; exact ones_tb hi)]⟩)
set_option maxHeartbeats 4000000 in
set_option maxRecDepth 100000 in
theorem c_X1_criticalNow (l : Launch) (G : GS) (K : Nat → Nat) (hs : Int64) (j : Nat) (hj0 : j < G 4 0) (hG : ok G) : MCi wM tM l yX1_criticalNow wsX1_criticalNow ({ frames := 3, cells := 0, slots := 0, locals := 67 }) [.int (nI j)] (G, K, hs) (fun r u => ∃ K', u = (G, K', hs) ∧ r = nI (bN (crit G j))) := by
  have hG0 := hG
  obtain ⟨b1, b2, b3, b4, b5, b6, b7, b8, b9, b10, b11⟩ := hG0
  have hpw := Nat.two_pow_pos (G 4 0)
  have hp28 : 2 ^ G 4 0 ≤ 2 ^ 28 := Nat.pow_le_pow_right (by decide) b6
  refine x_starti (cc := cX1_criticalNow) (maxL := 2) (ret := (some .int)) (own := RX1) (by decide) rfl rfl (fun _ => Nat.le_of_ble_eq_true rfl) ?_
  intro p e s m args below meth c D h q cs F hK hr hlk Q0 hQ0
  refine x_lv (lv' := [(0, .ref h), (1, .int (nI j))]) [0, 1] rfl ?_
  have hin : ∀ w ∈ wsX10, w ∈ wsX1_criticalNow := by decide +kernel
  have hm_calls : Cond.fieldLink RX1 46 "GossipScheduleModel" "calls" "I" ∈ wsX1_criticalNow := by decide +kernel
  refine x_aload_n (pc := 0) F dX1_criticalNow_0 0 rfl rfl ?_
  refine x_calli (w := wM) (ty := tM) (pc := 1) F hK wM_in [] [] (c_X1_isComplete l G K hs hG) (cwV 0 F.2.2.2.2 gX1_criticalNow_X1_isComplete rfl rfl rfl (by decide +kernel) ⟨Nat.le_of_ble_eq_true rfl, Nat.le_of_ble_eq_true rfl⟩) rfl rfl rfl rfl (Nat.le_of_ble_eq_true rfl) dX1_criticalNow_1 ?_
  rintro _ _ ⟨K5, rfl, rfl⟩
  refine x_ifB_eq (tgt := 32) (pc := 4) F dX1_criticalNow_4 (by decide) (fun hc_4 => ?_) (fun hc_4 => ?_)
  · refine x_iconst (v := nI 0) (pc := 32) F dX1_criticalNow_32 (by decide) ?_
    exact x_reti (w := wM) (ty := tM) (pc := 33) F hK hr hlk hQ0 dX1_criticalNow_33 (⟨_, rfl, congrArg nI (bN_f (fun z => hc_4 z.1)).symm⟩)
  · refine x_aload_n (pc := 7) F dX1_criticalNow_7 0 rfl rfl ?_
    refine x_iconst (v := nI 1) (pc := 8) F dX1_criticalNow_8 (by decide) ?_
    refine x_aload_n (pc := 9) F dX1_criticalNow_9 0 rfl rfl ?_
    refine gM_calls (v := G 4 0) (pc := 10) F hK hin hm_calls rfl dX1_criticalNow_10 ?_
    refine x_ishl (z := nI (1 * 2 ^ (G 4 0))) (pc := 13) F dX1_criticalNow_13 (nx_shl (by omega) (two_12 (by omega))) ?_
    refine x_iconst (v := nI 1) (pc := 14) F dX1_criticalNow_14 (by decide) ?_
    refine x_isub (z := nI ((1 * 2 ^ (G 4 0)) - 1)) (pc := 15) F dX1_criticalNow_15 (pk_sub (by omega)) ?_
    refine x_iconst (v := nI 1) (pc := 16) F dX1_criticalNow_16 (by decide) ?_
    refine x_iload_n (pc := 17) F dX1_criticalNow_17 1 rfl rfl ?_
    refine x_ishl (z := nI (1 * 2 ^ j)) (pc := 18) F dX1_criticalNow_18 (nx_shl (by omega) (two_12 (by omega))) ?_
    refine x_iconst (v := -1) (pc := 19) F dX1_criticalNow_19 (by decide) ?_
    refine x_ixor (pc := 20) F dX1_criticalNow_20 rfl ?_
    refine x_iand (pc := 21) F dX1_criticalNow_21 (andnot (but_set hj0)) ?_
    refine x_calli (w := wM) (ty := tM) (pc := 22) F hK wM_in [.int (nI ((1 * 2 ^ G 4 0 - 1) ^^^ 1 * 2 ^ j))] [] (c_X1_suffices l G K5 hs ((1 * 2 ^ G 4 0 - 1) ^^^ 1 * 2 ^ j) (but_lt b6 hj0) hG) (cwV 1 F.2.2.2.2 gX1_criticalNow_X1_suffices rfl rfl rfl (by decide +kernel) ⟨Nat.le_of_ble_eq_true rfl, Nat.le_of_ble_eq_true rfl⟩) rfl rfl rfl rfl (Nat.le_of_ble_eq_true rfl) dX1_criticalNow_22 ?_
    rintro _ _ ⟨K6, rfl, rfl⟩
    refine x_ifB_ne (tgt := 32) (pc := 25) F dX1_criticalNow_25 (by decide) (fun hc_25 => ?_) (fun hc_25 => ?_)
    · refine x_iconst (v := nI 0) (pc := 32) F dX1_criticalNow_32 (by decide) ?_
      exact x_reti (w := wM) (ty := tM) (pc := 33) F hK hr hlk hQ0 dX1_criticalNow_33 (⟨_, rfl, congrArg nI (bN_f (fun z => z.2 (by rw [← (show cmp G (tbF ((1 * 2 ^ G 4 0 - 1) ^^^ 1 * 2 ^ j)) = cmp G (butF j) from cmp_cong (fun i hi => but_tb hi))]; exact hc_25))).symm⟩)
    · refine x_iconst (v := nI 1) (pc := 28) F dX1_criticalNow_28 (by decide) ?_
      refine x_goto (tgt := 33) (pc := 29) F dX1_criticalNow_29 (by decide) ?_
      exact x_reti (w := wM) (ty := tM) (pc := 33) F hK hr hlk hQ0 dX1_criticalNow_33 (⟨_, rfl, congrArg nI (bN_t ⟨hc_4, by rw [← (show cmp G (tbF ((1 * 2 ^ G 4 0 - 1) ^^^ 1 * 2 ^ j)) = cmp G (butF j) from cmp_cong (fun i hi => but_tb hi))]; exact hc_25⟩).symm⟩)
set_option maxHeartbeats 4000000 in
set_option maxRecDepth 100000 in
theorem c_X1_isCritical (l : Launch) (G : GS) (K : Nat → Nat) (hs : Int64) (x : Int32) (hG : ok G) : MCi wM tM l yX1_isCritical wsX1_isCritical ({ frames := 4, cells := 0, slots := 0, locals := 88 }) [.int (x)] (G, K, hs) (fun r u => ∃ K', u = (G, K', hs) ∧ r = sp_crit G x) := by
  have hG0 := hG
  obtain ⟨b1, b2, b3, b4, b5, b6, b7, b8, b9, b10, b11⟩ := hG0
  refine x_starti (cc := cX1_isCritical) (maxL := 2) (ret := (some .int)) (own := RX1) (by decide) rfl rfl (fun _ => Nat.le_of_ble_eq_true rfl) ?_
  intro p e s m args below meth c D h q cs F hK hr hlk Q0 hQ0
  refine x_lv (lv' := [(0, .ref h), (1, .int (x))]) [0, 1] rfl ?_
  refine x_aload_n (pc := 0) F dX1_isCritical_0 0 rfl rfl ?_
  refine x_iload_n (pc := 1) F dX1_isCritical_1 1 rfl rfl ?_
  refine x_calli (w := wM) (ty := tM) (pc := 2) F hK wM_in [.int (x)] [] (c_X1_isCall l G K hs x ((x).toInt) rfl (by omega)) (cwV 1 F.2.2.2.2 gX1_isCritical_X1_isCall rfl rfl rfl (by decide +kernel) ⟨Nat.le_of_ble_eq_true rfl, Nat.le_of_ble_eq_true rfl⟩) rfl rfl rfl rfl (Nat.le_of_ble_eq_true rfl) dX1_isCritical_2 ?_
  rintro _ _ ⟨rfl, rfl⟩
  refine x_ifB_eq (tgt := 16) (pc := 5) F dX1_isCritical_5 (by decide) (fun hc_5 => ?_) (fun hc_5 => ?_)
  · refine x_bipush (v := -7) (pc := 16) F dX1_isCritical_16 (by decide) ?_
    exact x_reti (w := wM) (ty := tM) (pc := 18) F hK hr hlk hQ0 dX1_isCritical_18 (⟨K, rfl, by rw [sp_crit, if_neg (by unfold inR; omega)]⟩)
  · obtain ⟨ja, h_ja, rfl⟩ := nI_ofR (x := x) (n := G 4 0) (by omega) (by omega)
    have e_ja : (nI ja).toInt = (ja : Int) := nI_toInt (by omega)
    refine x_aload_n (pc := 8) F dX1_isCritical_8 0 rfl rfl ?_
    refine x_iload_n (pc := 9) F dX1_isCritical_9 1 rfl rfl ?_
    refine x_calli (w := wM) (ty := tM) (pc := 10) F hK wM_in [.int (nI ja)] [] (c_X1_criticalNow l G K hs ja (by omega) hG) (cwV 1 F.2.2.2.2 gX1_isCritical_X1_criticalNow rfl rfl rfl (by decide +kernel) ⟨Nat.le_of_ble_eq_true rfl, Nat.le_of_ble_eq_true rfl⟩) rfl rfl rfl rfl (Nat.le_of_ble_eq_true rfl) dX1_isCritical_10 ?_
    rintro _ _ ⟨K4, rfl, rfl⟩
    refine x_goto (tgt := 18) (pc := 13) F dX1_isCritical_13 (by decide) ?_
    exact x_reti (w := wM) (ty := tM) (pc := 18) F hK hr hlk hQ0 dX1_isCritical_18 (⟨K4, rfl, (sp_crit_nI h_ja b6).symm⟩)
set_option maxHeartbeats 4000000 in
set_option maxRecDepth 100000 in
theorem c_X1_ones (l : Launch) (sN : Nat) (hsN : sN < 4096) : MSi l yX1_ones wsX1_ones ({ frames := 0, cells := 0, slots := 0, locals := 0 }) [.int (nI sN)] (fun r => r = nI (popN sN 12)) := by
  refine x_sstarti (cc := cX1_ones) (maxL := 3) (ret := (some .int)) (own := RX1) (by decide) rfl rfl (Nat.le_of_ble_eq_true rfl) ?_
  intro p e s m args below meth c D F hr hlk Q0 hQ0
  refine x_lv (lv' := [(0, .int (nI sN))]) [0] rfl ?_
  refine x_iconst (v := nI 0) (pc := 0) F dX1_ones_0 (by decide) ?_
  refine x_istore_n (lv' := [(0, .int (nI sN)), (1, .int (nI 0))]) (pc := 1) F dX1_ones_1 rfl (by decide) [1, 0] rfl ?_
  refine x_iconst (v := nI 0) (pc := 2) F dX1_ones_2 (by decide) ?_
  refine x_istore_n (lv' := [(0, .int (nI sN)), (1, .int (nI 0)), (2, .int (nI 0))]) (pc := 3) F dX1_ones_3 rfl (by decide) [1, 2, 0] rfl ?_
  have cut_4 : ∀ (fu : Nat) (i : Nat), (i ≤ 28) → (28 - i) < fu → V p l e ({ frames := 0, cells := 0, slots := 0, locals := 0 }) s m args below meth c 3 0 0 Q0 (IW D (fun _ => False) s.heap []) 4 [(0, .int (nI sN)), (1, .int (nI (popN sN i))), (2, .int (nI i))] [] := by
    intro fu
    induction fu with
    | zero => intro i hi hfu; exact absurd hfu (Nat.not_lt_zero _)
    | succ fu ih_4 =>
      intro i hi hfu
      refine x_iload_n (pc := 4) F dX1_ones_4 2 rfl rfl ?_
      refine x_bipush (v := nI 28) (pc := 5) F dX1_ones_5 (by decide) ?_
      refine x_icmpN_ge (tgt := 24) (pc := 7) F dX1_ones_7 (by decide) (by omega) (by decide) (fun hc_7 => ?_) (fun hc_7 => ?_)
      · refine x_iload_n (pc := 24) F dX1_ones_24 1 rfl rfl ?_
        exact x_sreti (pc := 25) F hr hlk hQ0 dX1_ones_25 (by rw [show i = 28 by omega, pop_28 hsN])
      · refine x_iload_n (pc := 10) F dX1_ones_10 1 rfl rfl ?_
        refine x_iload_n (pc := 11) F dX1_ones_11 0 rfl rfl ?_
        refine x_iload_n (pc := 12) F dX1_ones_12 2 rfl rfl ?_
        refine x_ishr (z := nI (sN / 2 ^ i)) (pc := 13) F dX1_ones_13 (nx_shr (by omega) (by omega)) ?_
        refine x_iconst (v := nI 1) (pc := 14) F dX1_ones_14 (by decide) ?_
        refine x_iand (z := nI ((sN / 2 ^ i) &&& 1)) (pc := 15) F dX1_ones_15 (nx_and (sN / 2 ^ i) 1) ?_
        refine x_iadd (pc := 16) F dX1_ones_16 ((nI_add _ _).trans (congrArg nI (by rw [Nat.and_one_is_mod]))) ?_
        refine x_istore_n (lv' := [(0, .int (nI sN)), (1, .int (nI (popN sN (i + 1)))), (2, .int (nI i))]) (pc := 17) F dX1_ones_17 rfl (by decide) [1, 0, 2] rfl ?_
        refine x_iinc (v := nI (i + 1)) (lv' := [(0, .int (nI sN)), (1, .int (nI (popN sN (i + 1)))), (2, .int (nI (i + 1)))]) (pc := 18) F dX1_ones_18 2 rfl (nx_inc (b := 1) i (by decide)) (by decide) [1, 2, 0] rfl ?_
        refine x_goto (tgt := 4) (pc := 21) F dX1_ones_21 (by decide) ?_
        refine x_lv [0, 1, 2] rfl ?_
        exact ih_4 (i + 1) (by omega) (by omega)
  refine x_lv [0, 1, 2] rfl ?_
  exact cut_4 ((28 - 0) + 1) 0 (by decide) (Nat.lt_succ_self _)
set_option maxHeartbeats 4000000 in
set_option maxRecDepth 100000 in
theorem c_X1_smallestNow (l : Launch) (G : GS) (K : Nat → Nat) (hs : Int64) (hG : ok G) : MCi wM tM l yX1_smallestNow wsX1_smallestNow ({ frames := 2, cells := 0, slots := 0, locals := 47 }) [] (G, K, hs) (fun r u => ∃ K', u = (G, K', hs) ∧ r = sp_sm G) := by
  have hG0 := hG
  obtain ⟨b1, b2, b3, b4, b5, b6, b7, b8, b9, b10, b11⟩ := hG0
  have hp12 : G 4 0 ≤ 12 → 1 * 2 ^ G 4 0 ≤ 4096 := pow_12
  refine x_starti (cc := cX1_smallestNow) (maxL := 5) (ret := (some .int)) (own := RX1) (by decide) rfl rfl (fun _ => Nat.le_of_ble_eq_true rfl) ?_
  intro p e s m args below meth c D h q cs F hK hr hlk Q0 hQ0
  refine x_lv (lv' := [(0, .ref h)]) [0] rfl ?_
  have hin : ∀ w ∈ wsX10, w ∈ wsX1_smallestNow := by decide +kernel
  have hm_calls : Cond.fieldLink RX1 46 "GossipScheduleModel" "calls" "I" ∈ wsX1_smallestNow := by decide +kernel
  refine x_aload_n (pc := 0) F dX1_smallestNow_0 0 rfl rfl ?_
  refine gM_calls (v := G 4 0) (pc := 1) F hK hin hm_calls rfl dX1_smallestNow_1 ?_
  refine x_bipush (v := nI 12) (pc := 4) F dX1_smallestNow_4 (by decide) ?_
  refine x_icmpN_le (tgt := 12) (pc := 6) F dX1_smallestNow_6 (by decide) (by omega) (by decide) (fun hc_6 => ?_) (fun hc_6 => ?_)
  · refine x_iconst (v := -1) (pc := 12) F dX1_smallestNow_12 (by decide) ?_
    refine x_istore_n (lv' := [(0, .ref h), (1, .int ((-1)))]) (pc := 13) F dX1_smallestNow_13 rfl (by decide) [1, 0] rfl ?_
    refine x_bipush (v := nI 28) (pc := 14) F dX1_smallestNow_14 (by decide) ?_
    refine x_istore_n (lv' := [(0, .ref h), (1, .int ((-1))), (2, .int (nI 28))]) (pc := 16) F dX1_smallestNow_16 rfl (by decide) [1, 2, 0] rfl ?_
    have hp12 := hp12 (by omega)
    refine x_iconst (v := nI 0) (pc := 17) F dX1_smallestNow_17 (by decide) ?_
    refine x_istore_n (lv' := [(0, .ref h), (1, .int ((-1))), (2, .int (nI 28)), (3, .int (nI 0))]) (pc := 18) F dX1_smallestNow_18 rfl (by decide) [1, 2, 3, 0] rfl ?_
    have cut_19 : ∀ (fu : Nat) (k : Nat) (best : Int32) (few : Nat) (K1 : Nat → Nat), (k ≤ 1 * 2 ^ G 4 0) → (few = smF G 28 k) → (best = smB G 28 k) → (few ≤ 28) → (1 * 2 ^ G 4 0 - k) < fu → V p l e ({ frames := 2, cells := 0, slots := 0, locals := 47 }) s m args below meth c 5 0 0 Q0 (IC wM D h q cs s (G, K1, hs)) 19 [(0, .ref h), (1, .int (best)), (2, .int (nI few)), (3, .int (nI k))] [] := by
      intro fu
      induction fu with
      | zero => intro k best few K1 hk hfw hbs hf28 hfu; exact absurd hfu (Nat.not_lt_zero _)
      | succ fu ih_19 =>
        intro k best few K1 hk hfw hbs hf28 hfu
        refine x_iload_n (pc := 19) F dX1_smallestNow_19 3 rfl rfl ?_
        refine x_iconst (v := nI 1) (pc := 20) F dX1_smallestNow_20 (by decide) ?_
        refine x_aload_n (pc := 21) F dX1_smallestNow_21 0 rfl rfl ?_
        refine gM_calls (v := G 4 0) (pc := 22) F hK hin hm_calls rfl dX1_smallestNow_22 ?_
        refine x_ishl (z := nI (1 * 2 ^ (G 4 0))) (pc := 25) F dX1_smallestNow_25 (nx_shl (by omega) (two_12 (by omega))) ?_
        refine x_icmpN_ge (tgt := 60) (pc := 26) F dX1_smallestNow_26 (by decide) (by omega) (by omega) (fun hc_26 => ?_) (fun hc_26 => ?_)
        · refine x_iload_n (pc := 60) F dX1_smallestNow_60 1 rfl rfl ?_
          exact x_reti (w := wM) (ty := tM) (pc := 61) F hK hr hlk hQ0 dX1_smallestNow_61 (⟨K1, rfl, by rw [sp_sm, if_neg (by omega), hbs, show k = 2 ^ G 4 0 by omega]⟩)
        · have hpl := pop_le k 12
          refine x_iload_n (pc := 29) F dX1_smallestNow_29 3 rfl rfl ?_
          refine x_scalli (pc := 30) F [.int (nI k)] [] (c_X1_ones l k (by omega)) (va_cwS 1 F.2.2.2.2 gX1_smallestNow_X1_ones rfl rfl rfl (by decide +kernel) ⟨Nat.le_of_ble_eq_true rfl, Nat.le_of_ble_eq_true rfl⟩) rfl rfl (Nat.le_of_ble_eq_true rfl) dX1_smallestNow_30 ?_
          rintro _ rfl
          refine x_istore (lv' := [(0, .ref h), (1, .int (best)), (2, .int (nI few)), (3, .int (nI k)), (4, .int (nI (popN k 12)))]) (pc := 33) F dX1_smallestNow_33 (by decide) [1, 2, 3, 4, 0] rfl ?_
          refine x_iload (pc := 35) F dX1_smallestNow_35 4 rfl ?_
          refine x_iload_n (pc := 37) F dX1_smallestNow_37 2 rfl rfl ?_
          refine x_icmpN_ge (tgt := 54) (pc := 38) F dX1_smallestNow_38 (by decide) (by omega) (by omega) (fun hc_38 => ?_) (fun hc_38 => ?_)
          · refine x_iinc (v := nI (k + 1)) (lv' := [(0, .ref h), (1, .int (best)), (2, .int (nI few)), (3, .int (nI (k + 1))), (4, .int (nI (popN k 12)))]) (pc := 54) F dX1_smallestNow_54 3 rfl (nx_inc (b := 1) k (by decide)) (by decide) [1, 2, 3, 0, 4] rfl ?_
            refine x_goto (tgt := 19) (pc := 57) F dX1_smallestNow_57 (by decide) ?_
            refine x_lv [0, 1, 2, 3] rfl ?_
            exact ih_19 (k + 1) best few K1 (by omega) (by rw [(sm_f (fun z => absurd z.2 (by omega))).1]; exact hfw) (by rw [(sm_f (fun z => absurd z.2 (by omega))).2]; exact hbs) (by omega) (by omega)
          · refine x_aload_n (pc := 41) F dX1_smallestNow_41 0 rfl rfl ?_
            refine x_iload_n (pc := 42) F dX1_smallestNow_42 3 rfl rfl ?_
            refine x_calli (w := wM) (ty := tM) (pc := 43) F hK wM_in [.int (nI k)] [] (c_X1_suffices l G K1 hs k (by omega) hG) (cwV 1 F.2.2.2.2 gX1_smallestNow_X1_suffices rfl rfl rfl (by decide +kernel) ⟨Nat.le_of_ble_eq_true rfl, Nat.le_of_ble_eq_true rfl⟩) rfl rfl rfl rfl (Nat.le_of_ble_eq_true rfl) dX1_smallestNow_43 ?_
            rintro _ _ ⟨K6, rfl, rfl⟩
            refine x_ifB_eq (tgt := 54) (pc := 46) F dX1_smallestNow_46 (by decide) (fun hc_46 => ?_) (fun hc_46 => ?_)
            · refine x_iinc (v := nI (k + 1)) (lv' := [(0, .ref h), (1, .int (best)), (2, .int (nI few)), (3, .int (nI (k + 1))), (4, .int (nI (popN k 12)))]) (pc := 54) F dX1_smallestNow_54 3 rfl (nx_inc (b := 1) k (by decide)) (by decide) [1, 2, 3, 0, 4] rfl ?_
              refine x_goto (tgt := 19) (pc := 57) F dX1_smallestNow_57 (by decide) ?_
              refine x_lv [0, 1, 2, 3] rfl ?_
              exact ih_19 (k + 1) best few K6 (by omega) (by rw [(sm_f (fun z => hc_46 z.1)).1]; exact hfw) (by rw [(sm_f (fun z => hc_46 z.1)).2]; exact hbs) (by omega) (by omega)
            · refine x_iload_n (pc := 49) F dX1_smallestNow_49 3 rfl rfl ?_
              refine x_istore_n (lv' := [(0, .ref h), (1, .int (nI k)), (2, .int (nI few)), (3, .int (nI k)), (4, .int (nI (popN k 12)))]) (pc := 50) F dX1_smallestNow_50 rfl (by decide) [1, 0, 2, 3, 4] rfl ?_
              refine x_iload (pc := 51) F dX1_smallestNow_51 4 rfl ?_
              refine x_istore_n (lv' := [(0, .ref h), (1, .int (nI k)), (2, .int (nI (popN k 12))), (3, .int (nI k)), (4, .int (nI (popN k 12)))]) (pc := 53) F dX1_smallestNow_53 rfl (by decide) [1, 2, 0, 3, 4] rfl ?_
              refine x_iinc (v := nI (k + 1)) (lv' := [(0, .ref h), (1, .int (nI k)), (2, .int (nI (popN k 12))), (3, .int (nI (k + 1))), (4, .int (nI (popN k 12)))]) (pc := 54) F dX1_smallestNow_54 3 rfl (nx_inc (b := 1) k (by decide)) (by decide) [1, 2, 3, 0, 4] rfl ?_
              refine x_goto (tgt := 19) (pc := 57) F dX1_smallestNow_57 (by decide) ?_
              refine x_lv [0, 1, 2, 3] rfl ?_
              exact ih_19 (k + 1) (nI k) (popN k 12) K6 (by omega) ((sm_t ⟨hc_46, by omega⟩).1).symm ((sm_t ⟨hc_46, by omega⟩).2).symm (by omega) (by omega)
    refine x_lv [0, 1, 2, 3] rfl ?_
    exact cut_19 ((1 * 2 ^ G 4 0 - 0) + 1) 0 ((-1)) 28 K (Nat.zero_le _) rfl rfl (by omega) (Nat.lt_succ_self _)
  · refine x_bipush (v := -15) (pc := 9) F dX1_smallestNow_9 (by decide) ?_
    exact x_reti (w := wM) (ty := tM) (pc := 11) F hK hr hlk hQ0 dX1_smallestNow_11 (⟨K, rfl, by rw [sp_sm, if_pos (by omega)]⟩)
set_option maxHeartbeats 4000000 in
set_option maxRecDepth 100000 in
theorem c_X1_smallestSufficientCalls (l : Launch) (G : GS) (K : Nat → Nat) (hs : Int64) (hG : ok G) : MCi wM tM l yX1_smallestSufficientCalls wsX1_smallestSufficientCalls ({ frames := 3, cells := 0, slots := 0, locals := 71 }) [] (G, K, hs) (fun r u => ∃ K', u = (G, K', hs) ∧ r = sp_sm G) := by
  refine x_starti (cc := cX1_smallestSufficientCalls) (maxL := 1) (ret := (some .int)) (own := RX1) (by decide) rfl rfl (fun _ => Nat.le_of_ble_eq_true rfl) ?_
  intro p e s m args below meth c D h q cs F hK hr hlk Q0 hQ0
  refine x_lv (lv' := [(0, .ref h)]) [0] rfl ?_
  refine x_aload_n (pc := 0) F dX1_smallestSufficientCalls_0 0 rfl rfl ?_
  refine x_calli (w := wM) (ty := tM) (pc := 1) F hK wM_in [] [] (c_X1_smallestNow l G K hs hG) (cwV 0 F.2.2.2.2 gX1_smallestSufficientCalls_X1_smallestNow rfl rfl rfl (by decide +kernel) ⟨Nat.le_of_ble_eq_true rfl, Nat.le_of_ble_eq_true rfl⟩) rfl rfl rfl rfl (Nat.le_of_ble_eq_true rfl) dX1_smallestSufficientCalls_1 ?_
  rintro _ _ ⟨K3, rfl, rfl⟩
  exact x_reti (w := wM) (ty := tM) (pc := 4) F hK hr hlk hQ0 dX1_smallestSufficientCalls_4 (⟨K3, rfl, rfl⟩)
