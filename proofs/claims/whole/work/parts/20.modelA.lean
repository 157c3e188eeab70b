set_option maxHeartbeats 4000000 in
set_option maxRecDepth 100000 in
theorem c_X1_within (l : Launch) (x lo hi : Int32) (xi li ui : Int) (hx : x.toInt = xi) (hl : lo.toInt = li) (hu : hi.toInt = ui) : MSi l yX1_within wsX1_within ({ frames := 0, cells := 0, slots := 0, locals := 0 }) [.int (x), .int (lo), .int (hi)] (fun r => r = nI (bN (li ≤ xi ∧ xi ≤ ui))) := by
  refine x_sstarti (cc := cX1_within) (maxL := 3) (ret := (some .boolean)) (own := RX1) (by decide) rfl rfl (Nat.le_of_ble_eq_true rfl) ?_
  intro p e s m args below meth c D F hr hlk Q0 hQ0
  refine x_lv (lv' := [(0, .int (x)), (1, .int (lo)), (2, .int (hi))]) [0, 1, 2] rfl ?_
  refine x_iload_n (pc := 0) F dX1_within_0 0 rfl rfl ?_
  refine x_iload_n (pc := 1) F dX1_within_1 1 rfl rfl ?_
  refine x_icmpT_lt (a := xi) (b := li) (tgt := 14) (pc := 2) F dX1_within_2 (by decide) hx hl (fun hc_2 => ?_) (fun hc_2 => ?_)
  · refine x_iconst (v := nI 0) (pc := 14) F dX1_within_14 (by decide) ?_
    exact x_sretz (pc := 15) F hr hlk hQ0 (nar_z _ (by omega)) dX1_within_15 (congrArg nI (bN_f (by omega)).symm)
  · refine x_iload_n (pc := 5) F dX1_within_5 0 rfl rfl ?_
    refine x_iload_n (pc := 6) F dX1_within_6 2 rfl rfl ?_
    refine x_icmpT_gt (a := xi) (b := ui) (tgt := 14) (pc := 7) F dX1_within_7 (by decide) hx hu (fun hc_7 => ?_) (fun hc_7 => ?_)
    · refine x_iconst (v := nI 0) (pc := 14) F dX1_within_14 (by decide) ?_
      exact x_sretz (pc := 15) F hr hlk hQ0 (nar_z _ (by omega)) dX1_within_15 (congrArg nI (bN_f (by omega)).symm)
    · refine x_iconst (v := nI 1) (pc := 10) F dX1_within_10 (by decide) ?_
      refine x_goto (tgt := 15) (pc := 11) F dX1_within_11 (by decide) ?_
      exact x_sretz (pc := 15) F hr hlk hQ0 (nar_z _ (by omega)) dX1_within_15 (congrArg nI (bN_t (by omega)).symm)
set_option maxHeartbeats 4000000 in
set_option maxRecDepth 100000 in
theorem c_X1_isPerson (l : Launch) (G : GS) (K : Nat → Nat) (hs : Int64) (x : Int32) (xi : Int) (hx : x.toInt = xi) (h8 : G 0 0 ≤ 8) (h2 : 2 ≤ G 0 0) : MCi wM tM l yX1_isPerson wsX1_isPerson ({ frames := 1, cells := 0, slots := 0, locals := 22 }) [.int (x)] (G, K, hs) (fun r u => u = (G, K, hs) ∧ r = nI (bN (0 ≤ xi ∧ xi < (G 0 0 : Int)))) := by
  refine x_starti (cc := cX1_isPerson) (maxL := 2) (ret := (some .boolean)) (own := RX1) (by decide) rfl rfl (fun _ => Nat.le_of_ble_eq_true rfl) ?_
  intro p e s m args below meth c D h q cs F hK hr hlk Q0 hQ0
  refine x_lv (lv' := [(0, .ref h), (1, .int (x))]) [0, 1] rfl ?_
  have hin : ∀ w ∈ wsX10, w ∈ wsX1_isPerson := by decide +kernel
  have hm_persons : Cond.fieldLink RX1 7 "GossipScheduleModel" "persons" "I" ∈ wsX1_isPerson := by decide +kernel
  refine x_iload_n (pc := 0) F dX1_isPerson_0 1 rfl rfl ?_
  refine x_iconst (v := nI 0) (pc := 1) F dX1_isPerson_1 (by decide) ?_
  refine x_aload_n (pc := 2) F dX1_isPerson_2 0 rfl rfl ?_
  refine gM_persons (v := G 0 0) (pc := 3) F hK hin hm_persons rfl dX1_isPerson_3 ?_
  refine x_iconst (v := nI 1) (pc := 6) F dX1_isPerson_6 (by decide) ?_
  refine x_isub (z := nI (G 0 0 - 1)) (pc := 7) F dX1_isPerson_7 (pk_sub (by omega)) ?_
  refine x_scalli (pc := 8) F [.int (x), .int (nI 0), .int (nI (G 0 0 - 1))] [] (c_X1_within l x (nI 0) (nI (G 0 0 - 1)) xi (((0 : Nat) : Int)) (((G 0 0 - 1 : Nat) : Int)) hx (nI_toInt (by omega)) (nI_toInt (by omega))) (va_cwS 3 F.2.2.2.2 gX1_isPerson_X1_within rfl rfl rfl (by decide +kernel) ⟨Nat.le_of_ble_eq_true rfl, Nat.le_of_ble_eq_true rfl⟩) rfl rfl (Nat.le_of_ble_eq_true rfl) dX1_isPerson_8 ?_
  rintro _ rfl
  exact x_retz (w := wM) (ty := tM) (pc := 11) F hK hr hlk hQ0 (nar_z _ (bN_lt _)) dX1_isPerson_11 (⟨rfl, congrArg nI (bN_c (by omega))⟩)
set_option maxHeartbeats 4000000 in
set_option maxRecDepth 100000 in
theorem c_X1_isCall (l : Launch) (G : GS) (K : Nat → Nat) (hs : Int64) (x : Int32) (xi : Int) (hx : x.toInt = xi) (h8 : G 4 0 ≤ 28) : MCi wM tM l yX1_isCall wsX1_isCall ({ frames := 1, cells := 0, slots := 0, locals := 22 }) [.int (x)] (G, K, hs) (fun r u => u = (G, K, hs) ∧ r = nI (bN (0 ≤ xi ∧ xi < (G 4 0 : Int)))) := by
  refine x_starti (cc := cX1_isCall) (maxL := 2) (ret := (some .boolean)) (own := RX1) (by decide) rfl rfl (fun _ => Nat.le_of_ble_eq_true rfl) ?_
  intro p e s m args below meth c D h q cs F hK hr hlk Q0 hQ0
  refine x_lv (lv' := [(0, .ref h), (1, .int (x))]) [0, 1] rfl ?_
  have hin : ∀ w ∈ wsX10, w ∈ wsX1_isCall := by decide +kernel
  have hm_calls : Cond.fieldLink RX1 46 "GossipScheduleModel" "calls" "I" ∈ wsX1_isCall := by decide +kernel
  refine x_iload_n (pc := 0) F dX1_isCall_0 1 rfl rfl ?_
  refine x_iconst (v := nI 0) (pc := 1) F dX1_isCall_1 (by decide) ?_
  refine x_aload_n (pc := 2) F dX1_isCall_2 0 rfl rfl ?_
  refine gM_calls (v := G 4 0) (pc := 3) F hK hin hm_calls rfl dX1_isCall_3 ?_
  refine x_iconst (v := nI 1) (pc := 6) F dX1_isCall_6 (by decide) ?_
  refine x_isub (pc := 7) F dX1_isCall_7 rfl ?_
  refine x_scalli (pc := 8) F [.int (x), .int (nI 0), .int (nI (G 4 0) - 1)] [] (c_X1_within l x (nI 0) (nI (G 4 0) - 1) xi (((0 : Nat) : Int)) ((G 4 0 : Int) - 1) hx (nI_toInt (by omega)) (nI_m1 (by omega))) (va_cwS 3 F.2.2.2.2 gX1_isCall_X1_within rfl rfl rfl (by decide +kernel) ⟨Nat.le_of_ble_eq_true rfl, Nat.le_of_ble_eq_true rfl⟩) rfl rfl (Nat.le_of_ble_eq_true rfl) dX1_isCall_8 ?_
  rintro _ rfl
  exact x_retz (w := wM) (ty := tM) (pc := 11) F hK hr hlk hQ0 (nar_z _ (bN_lt _)) dX1_isCall_11 (⟨rfl, congrArg nI (bN_c (by omega))⟩)
set_option maxHeartbeats 4000000 in
set_option maxRecDepth 100000 in
theorem c_X1_newSchedule (l : Launch) (G : GS) (K : Nat → Nat) (hs : Int64) (x y : Int32) : MCi wM tM l yX1_newSchedule wsX1_newSchedule ({ frames := 1, cells := 0, slots := 0, locals := 22 }) [.int (x), .int (y)] (G, K, hs) (fun r u => u = (sg_newSchedule G x y, K, hs) ∧ r = sp_newSchedule x y) := by
  refine x_starti (cc := cX1_newSchedule) (maxL := 3) (ret := (some .int)) (own := RX1) (by decide) rfl rfl (fun _ => Nat.le_of_ble_eq_true rfl) ?_
  intro p e s m args below meth c D h q cs F hK hr hlk Q0 hQ0
  refine x_lv (lv' := [(0, .ref h), (1, .int (x)), (2, .int (y))]) [0, 1, 2] rfl ?_
  have hin : ∀ w ∈ wsX10, w ∈ wsX1_newSchedule := by decide +kernel
  have hm_persons : Cond.fieldLink RX1 7 "GossipScheduleModel" "persons" "I" ∈ wsX1_newSchedule := by decide +kernel
  have hm_mode : Cond.fieldLink RX1 37 "GossipScheduleModel" "mode" "I" ∈ wsX1_newSchedule := by decide +kernel
  have hm_graph : Cond.fieldLink RX1 40 "GossipScheduleModel" "graph" "I" ∈ wsX1_newSchedule := by decide +kernel
  have hm_rounds : Cond.fieldLink RX1 43 "GossipScheduleModel" "rounds" "I" ∈ wsX1_newSchedule := by decide +kernel
  have hm_calls : Cond.fieldLink RX1 46 "GossipScheduleModel" "calls" "I" ∈ wsX1_newSchedule := by decide +kernel
  refine x_iload_n (pc := 0) F dX1_newSchedule_0 1 rfl rfl ?_
  refine x_iconst (v := nI 2) (pc := 1) F dX1_newSchedule_1 (by decide) ?_
  refine x_bipush (v := nI 8) (pc := 2) F dX1_newSchedule_2 (by decide) ?_
  refine x_scalli (pc := 4) F [.int (x), .int (nI 2), .int (nI 8)] [] (c_X1_within l x (nI 2) (nI 8) ((x).toInt) (((2 : Nat) : Int)) (((8 : Nat) : Int)) rfl (nI_toInt (by omega)) (nI_toInt (by omega))) (va_cwS 3 F.2.2.2.2 gX1_newSchedule_X1_within rfl rfl rfl (by decide +kernel) ⟨Nat.le_of_ble_eq_true rfl, Nat.le_of_ble_eq_true rfl⟩) rfl rfl (Nat.le_of_ble_eq_true rfl) dX1_newSchedule_4 ?_
  rintro _ rfl
  refine x_ifB_eq (tgt := 19) (pc := 7) F dX1_newSchedule_7 (by decide) (fun hc_7 => ?_) (fun hc_7 => ?_)
  · refine x_bipush (v := -5) (pc := 19) F dX1_newSchedule_19 (by decide) ?_
    exact x_reti (w := wM) (ty := tM) (pc := 21) F hK hr hlk hQ0 dX1_newSchedule_21 (⟨by rw [sg_newSchedule, if_neg (by omega)], by rw [sp_newSchedule, if_neg (by omega)]⟩)
  · refine x_iload_n (pc := 10) F dX1_newSchedule_10 2 rfl rfl ?_
    refine x_iconst (v := nI 0) (pc := 11) F dX1_newSchedule_11 (by decide) ?_
    refine x_iconst (v := nI 2) (pc := 12) F dX1_newSchedule_12 (by decide) ?_
    refine x_scalli (pc := 13) F [.int (y), .int (nI 0), .int (nI 2)] [] (c_X1_within l y (nI 0) (nI 2) ((y).toInt) (((0 : Nat) : Int)) (((2 : Nat) : Int)) rfl (nI_toInt (by omega)) (nI_toInt (by omega))) (va_cwS 3 F.2.2.2.2 gX1_newSchedule_X1_within rfl rfl rfl (by decide +kernel) ⟨Nat.le_of_ble_eq_true rfl, Nat.le_of_ble_eq_true rfl⟩) rfl rfl (Nat.le_of_ble_eq_true rfl) dX1_newSchedule_13 ?_
    rintro _ rfl
    refine x_ifB_ne (tgt := 22) (pc := 16) F dX1_newSchedule_16 (by decide) (fun hc_16 => ?_) (fun hc_16 => ?_)
    · obtain ⟨ja, h_ja, rfl⟩ := nI_ofR (x := x) (n := 9) (by omega) (by omega)
      have e_ja : (nI ja).toInt = (ja : Int) := nI_toInt (by omega)
      obtain ⟨jb, h_jb, rfl⟩ := nI_ofR (x := y) (n := 3) (by omega) (by omega)
      have e_jb : (nI jb).toInt = (jb : Int) := nI_toInt (by omega)
      refine x_aload_n (pc := 22) F dX1_newSchedule_22 0 rfl rfl ?_
      refine x_iload_n (pc := 23) F dX1_newSchedule_23 1 rfl rfl ?_
      refine pM_persons (pc := 24) F hK hin hm_persons dX1_newSchedule_24 ?_
      refine x_aload_n (pc := 27) F dX1_newSchedule_27 0 rfl rfl ?_
      refine x_iload_n (pc := 28) F dX1_newSchedule_28 2 rfl rfl ?_
      refine pM_mode (pc := 29) F hK hin hm_mode dX1_newSchedule_29 ?_
      refine x_aload_n (pc := 32) F dX1_newSchedule_32 0 rfl rfl ?_
      refine x_iconst (v := nI 0) (pc := 33) F dX1_newSchedule_33 (by decide) ?_
      refine pM_graph (pc := 34) F hK hin hm_graph dX1_newSchedule_34 ?_
      refine x_aload_n (pc := 37) F dX1_newSchedule_37 0 rfl rfl ?_
      refine x_iconst (v := nI 0) (pc := 38) F dX1_newSchedule_38 (by decide) ?_
      refine pM_rounds (pc := 39) F hK hin hm_rounds dX1_newSchedule_39 ?_
      refine x_aload_n (pc := 42) F dX1_newSchedule_42 0 rfl rfl ?_
      refine x_iconst (v := nI 0) (pc := 43) F dX1_newSchedule_43 (by decide) ?_
      refine pM_calls (pc := 44) F hK hin hm_calls dX1_newSchedule_44 ?_
      refine x_iload_n (pc := 47) F dX1_newSchedule_47 1 rfl rfl ?_
      exact x_reti (w := wM) (ty := tM) (pc := 48) F hK hr hlk hQ0 dX1_newSchedule_48 (⟨by rw [sg_newSchedule, if_pos (by omega), toNat_nI (by omega), toNat_nI (by omega)]; rfl, by rw [sp_newSchedule, if_pos (by omega)]⟩)
    · refine x_bipush (v := -5) (pc := 19) F dX1_newSchedule_19 (by decide) ?_
      exact x_reti (w := wM) (ty := tM) (pc := 21) F hK hr hlk hQ0 dX1_newSchedule_21 (⟨by rw [sg_newSchedule, if_neg (by omega)], by rw [sp_newSchedule, if_neg (by omega)]⟩)
set_option maxHeartbeats 4000000 in
set_option maxRecDepth 100000 in
theorem c_X1_isPower (l : Launch) (G : GS) (K : Nat → Nat) (hs : Int64) (h8 : G 0 0 ≤ 8) : MCi wM tM l yX1_isPower wsX1_isPower ({ frames := 0, cells := 0, slots := 0, locals := 0 }) [] (G, K, hs) (fun r u => u = (G, K, hs) ∧ r = nI (bN (cubeN G))) := by
  refine x_starti (cc := cX1_isPower) (maxL := 1) (ret := (some .boolean)) (own := RX1) (by decide) rfl rfl (fun _ => Nat.le_of_ble_eq_true rfl) ?_
  intro p e s m args below meth c D h q cs F hK hr hlk Q0 hQ0
  refine x_lv (lv' := [(0, .ref h)]) [0] rfl ?_
  have hin : ∀ w ∈ wsX10, w ∈ wsX1_isPower := by decide +kernel
  have hm_persons : Cond.fieldLink RX1 7 "GossipScheduleModel" "persons" "I" ∈ wsX1_isPower := by decide +kernel
  refine x_aload_n (pc := 0) F dX1_isPower_0 0 rfl rfl ?_
  refine gM_persons (v := G 0 0) (pc := 1) F hK hin hm_persons rfl dX1_isPower_1 ?_
  refine x_iconst (v := nI 2) (pc := 4) F dX1_isPower_4 (by decide) ?_
  refine x_icmpN_eq (tgt := 25) (pc := 5) F dX1_isPower_5 (by decide) (by omega) (by decide) (fun hc_5 => ?_) (fun hc_5 => ?_)
  · refine x_iconst (v := nI 1) (pc := 25) F dX1_isPower_25 (by decide) ?_
    refine x_goto (tgt := 30) (pc := 26) F dX1_isPower_26 (by decide) ?_
    exact x_retz (w := wM) (ty := tM) (pc := 30) F hK hr hlk hQ0 (nar_z _ (by omega)) dX1_isPower_30 (⟨rfl, congrArg nI (bN_t (by omega)).symm⟩)
  · refine x_aload_n (pc := 8) F dX1_isPower_8 0 rfl rfl ?_
    refine gM_persons (v := G 0 0) (pc := 9) F hK hin hm_persons rfl dX1_isPower_9 ?_
    refine x_iconst (v := nI 4) (pc := 12) F dX1_isPower_12 (by decide) ?_
    refine x_icmpN_eq (tgt := 25) (pc := 13) F dX1_isPower_13 (by decide) (by omega) (by decide) (fun hc_13 => ?_) (fun hc_13 => ?_)
    · refine x_iconst (v := nI 1) (pc := 25) F dX1_isPower_25 (by decide) ?_
      refine x_goto (tgt := 30) (pc := 26) F dX1_isPower_26 (by decide) ?_
      exact x_retz (w := wM) (ty := tM) (pc := 30) F hK hr hlk hQ0 (nar_z _ (by omega)) dX1_isPower_30 (⟨rfl, congrArg nI (bN_t (by omega)).symm⟩)
    · refine x_aload_n (pc := 16) F dX1_isPower_16 0 rfl rfl ?_
      refine gM_persons (v := G 0 0) (pc := 17) F hK hin hm_persons rfl dX1_isPower_17 ?_
      refine x_bipush (v := nI 8) (pc := 20) F dX1_isPower_20 (by decide) ?_
      refine x_icmpN_ne (tgt := 29) (pc := 22) F dX1_isPower_22 (by decide) (by omega) (by decide) (fun hc_22 => ?_) (fun hc_22 => ?_)
      · refine x_iconst (v := nI 0) (pc := 29) F dX1_isPower_29 (by decide) ?_
        exact x_retz (w := wM) (ty := tM) (pc := 30) F hK hr hlk hQ0 (nar_z _ (by omega)) dX1_isPower_30 (⟨rfl, congrArg nI (bN_f (by omega)).symm⟩)
      · refine x_iconst (v := nI 1) (pc := 25) F dX1_isPower_25 (by decide) ?_
        refine x_goto (tgt := 30) (pc := 26) F dX1_isPower_26 (by decide) ?_
        exact x_retz (w := wM) (ty := tM) (pc := 30) F hK hr hlk hQ0 (nar_z _ (by omega)) dX1_isPower_30 (⟨rfl, congrArg nI (bN_t (by omega)).symm⟩)
set_option maxHeartbeats 4000000 in
set_option maxRecDepth 100000 in
theorem c_X1_setGraph (l : Launch) (G : GS) (K : Nat → Nat) (hs : Int64) (x : Int32) (hG : ok G) : MCi wM tM l yX1_setGraph wsX1_setGraph ({ frames := 1, cells := 0, slots := 0, locals := 22 }) [.int (x)] (G, K, hs) (fun r u => u = (sg_setGraph G x, K, hs) ∧ r = sp_setGraph G x) := by
  have hG0 := hG
  obtain ⟨b1, b2, b3, b4, b5, b6, b7, b8, b9, b10, b11⟩ := hG0
  refine x_starti (cc := cX1_setGraph) (maxL := 3) (ret := (some .int)) (own := RX1) (by decide) rfl rfl (fun _ => Nat.le_of_ble_eq_true rfl) ?_
  intro p e s m args below meth c D h q cs F hK hr hlk Q0 hQ0
  refine x_lv (lv' := [(0, .ref h), (1, .int (x))]) [0, 1] rfl ?_
  have hin : ∀ w ∈ wsX10, w ∈ wsX1_setGraph := by decide +kernel
  have hm_graph : Cond.fieldLink RX1 40 "GossipScheduleModel" "graph" "I" ∈ wsX1_setGraph := by decide +kernel
  refine x_iload_n (pc := 0) F dX1_setGraph_0 1 rfl rfl ?_
  refine x_iconst (v := nI 0) (pc := 1) F dX1_setGraph_1 (by decide) ?_
  refine x_iconst (v := nI 4) (pc := 2) F dX1_setGraph_2 (by decide) ?_
  refine x_scalli (pc := 3) F [.int (x), .int (nI 0), .int (nI 4)] [] (c_X1_within l x (nI 0) (nI 4) ((x).toInt) (((0 : Nat) : Int)) (((4 : Nat) : Int)) rfl (nI_toInt (by omega)) (nI_toInt (by omega))) (va_cwS 3 F.2.2.2.2 gX1_setGraph_X1_within rfl rfl rfl (by decide +kernel) ⟨Nat.le_of_ble_eq_true rfl, Nat.le_of_ble_eq_true rfl⟩) rfl rfl (Nat.le_of_ble_eq_true rfl) dX1_setGraph_3 ?_
  rintro _ rfl
  refine x_ifB_ne (tgt := 12) (pc := 6) F dX1_setGraph_6 (by decide) (fun hc_6 => ?_) (fun hc_6 => ?_)
  · obtain ⟨ja, h_ja, rfl⟩ := nI_ofR (x := x) (n := 5) (by omega) (by omega)
    have e_ja : (nI ja).toInt = (ja : Int) := nI_toInt (by omega)
    refine x_iload_n (pc := 12) F dX1_setGraph_12 1 rfl rfl ?_
    refine x_iconst (v := nI 4) (pc := 13) F dX1_setGraph_13 (by decide) ?_
    refine x_icmpN_ne (tgt := 27) (pc := 14) F dX1_setGraph_14 (by decide) (by omega) (by decide) (fun hc_14 => ?_) (fun hc_14 => ?_)
    · refine x_aload_n (pc := 27) F dX1_setGraph_27 0 rfl rfl ?_
      refine gM_graph (v := G 2 0) (pc := 28) F hK hin hm_graph rfl dX1_setGraph_28 ?_
      refine x_istore_n (lv' := [(0, .ref h), (1, .int (nI ja)), (2, .int (nI (G 2 0)))]) (pc := 31) F dX1_setGraph_31 rfl (by decide) [1, 2, 0] rfl ?_
      refine x_aload_n (pc := 32) F dX1_setGraph_32 0 rfl rfl ?_
      refine x_iload_n (pc := 33) F dX1_setGraph_33 1 rfl rfl ?_
      refine pM_graph (pc := 34) F hK hin hm_graph dX1_setGraph_34 ?_
      refine x_iload_n (pc := 37) F dX1_setGraph_37 2 rfl rfl ?_
      exact x_reti (w := wM) (ty := tM) (pc := 38) F hK hr hlk hQ0 dX1_setGraph_38 (⟨by rw [sg_setGraph, if_pos (by omega), if_neg (fun z => absurd z.1 (by omega)), toNat_nI (by omega)], by rw [sp_setGraph, if_pos (by omega), if_neg (fun z => absurd z.1 (by omega))]⟩)
    · refine x_aload_n (pc := 17) F dX1_setGraph_17 0 rfl rfl ?_
      refine x_calli (w := wM) (ty := tM) (pc := 18) F hK wM_in [] [] (c_X1_isPower l G K hs (by omega)) (cwV 0 F.2.2.2.2 gX1_setGraph_X1_isPower rfl rfl rfl (by decide +kernel) ⟨Nat.le_of_ble_eq_true rfl, Nat.le_of_ble_eq_true rfl⟩) rfl rfl rfl rfl (Nat.le_of_ble_eq_true rfl) dX1_setGraph_18 ?_
      rintro _ _ ⟨rfl, rfl⟩
      refine x_ifB_ne (tgt := 27) (pc := 21) F dX1_setGraph_21 (by decide) (fun hc_21 => ?_) (fun hc_21 => ?_)
      · refine x_aload_n (pc := 27) F dX1_setGraph_27 0 rfl rfl ?_
        refine gM_graph (v := G 2 0) (pc := 28) F hK hin hm_graph rfl dX1_setGraph_28 ?_
        refine x_istore_n (lv' := [(0, .ref h), (1, .int (nI ja)), (2, .int (nI (G 2 0)))]) (pc := 31) F dX1_setGraph_31 rfl (by decide) [1, 2, 0] rfl ?_
        refine x_aload_n (pc := 32) F dX1_setGraph_32 0 rfl rfl ?_
        refine x_iload_n (pc := 33) F dX1_setGraph_33 1 rfl rfl ?_
        refine pM_graph (pc := 34) F hK hin hm_graph dX1_setGraph_34 ?_
        refine x_iload_n (pc := 37) F dX1_setGraph_37 2 rfl rfl ?_
        exact x_reti (w := wM) (ty := tM) (pc := 38) F hK hr hlk hQ0 dX1_setGraph_38 (⟨by rw [sg_setGraph, if_pos (by omega), if_neg (fun z => z.2 hc_21), toNat_nI (by omega)], by rw [sp_setGraph, if_pos (by omega), if_neg (fun z => z.2 hc_21)]⟩)
      · refine x_bipush (v := -14) (pc := 24) F dX1_setGraph_24 (by decide) ?_
        exact x_reti (w := wM) (ty := tM) (pc := 26) F hK hr hlk hQ0 dX1_setGraph_26 (⟨by rw [sg_setGraph, if_pos (by omega), if_pos ⟨by omega, hc_21⟩], by rw [sp_setGraph, if_pos (by omega), if_pos ⟨by omega, hc_21⟩]⟩)
  · refine x_bipush (v := -5) (pc := 9) F dX1_setGraph_9 (by decide) ?_
    exact x_reti (w := wM) (ty := tM) (pc := 11) F hK hr hlk hQ0 dX1_setGraph_11 (⟨by rw [sg_setGraph, if_neg (by omega)], by rw [sp_setGraph, if_neg (by omega)]⟩)
set_option maxHeartbeats 4000000 in
set_option maxRecDepth 100000 in
theorem c_X1_isEdge (l : Launch) (G : GS) (K : Nat → Nat) (hs : Int64) (a b : Nat) (ha : a < G 0 0) (hb : b < G 0 0) (h8 : G 0 0 ≤ 8) (h4 : G 2 0 ≤ 4) (h2 : 2 ≤ G 0 0) : MCi wM tM l yX1_isEdge wsX1_isEdge ({ frames := 0, cells := 0, slots := 0, locals := 0 }) [.int (nI a), .int (nI b)] (G, K, hs) (fun r u => u = (G, K, hs) ∧ r = nI (bN (edge G a b))) := by
  have hpx := (pop_xor a (by omega) b (by omega)).1
  have hxx : a = b → a ^^^ b = 0 := fun e => by rw [e, Nat.xor_self]
  refine x_starti (cc := cX1_isEdge) (maxL := 6) (ret := (some .boolean)) (own := RX1) (by decide) rfl rfl (fun _ => Nat.le_of_ble_eq_true rfl) ?_
  intro p e s m args below meth c D h q cs F hK hr hlk Q0 hQ0
  refine x_lv (lv' := [(0, .ref h), (1, .int (nI a)), (2, .int (nI b))]) [0, 1, 2] rfl ?_
  have hin : ∀ w ∈ wsX10, w ∈ wsX1_isEdge := by decide +kernel
  have hm_graph : Cond.fieldLink RX1 40 "GossipScheduleModel" "graph" "I" ∈ wsX1_isEdge := by decide +kernel
  have hm_persons : Cond.fieldLink RX1 7 "GossipScheduleModel" "persons" "I" ∈ wsX1_isEdge := by decide +kernel
  refine x_iload_n (pc := 0) F dX1_isEdge_0 1 rfl rfl ?_
  refine x_iload_n (pc := 1) F dX1_isEdge_1 2 rfl rfl ?_
  refine x_icmpN_ge (tgt := 9) (pc := 2) F dX1_isEdge_2 (by decide) (by omega) (by omega) (fun hc_2 => ?_) (fun hc_2 => ?_)
  · refine x_iload_n (pc := 9) F dX1_isEdge_9 2 rfl rfl ?_
    refine x_istore_n (lv' := [(0, .ref h), (1, .int (nI a)), (2, .int (nI b)), (3, .int (nI b))]) (pc := 10) F dX1_isEdge_10 rfl (by decide) [1, 2, 3, 0] rfl ?_
    refine x_iload_n (pc := 11) F dX1_isEdge_11 1 rfl rfl ?_
    refine x_iload_n (pc := 12) F dX1_isEdge_12 2 rfl rfl ?_
    refine x_icmpN_ge (tgt := 20) (pc := 13) F dX1_isEdge_13 (by decide) (by omega) (by omega) (fun hc_13 => ?_) (fun hc_13 => absurd hc_13 (by omega))
    refine x_iload_n (pc := 20) F dX1_isEdge_20 1 rfl rfl ?_
    refine x_istore (lv' := [(0, .ref h), (1, .int (nI a)), (2, .int (nI b)), (3, .int (nI b)), (4, .int (nI a))]) (pc := 21) F dX1_isEdge_21 (by decide) [1, 2, 3, 4, 0] rfl ?_
    refine x_iload_n (pc := 23) F dX1_isEdge_23 1 rfl rfl ?_
    refine x_iload_n (pc := 24) F dX1_isEdge_24 2 rfl rfl ?_
    refine x_ixor (z := nI (a ^^^ b)) (pc := 25) F dX1_isEdge_25 (nx_xor a b) ?_
    refine x_istore (lv' := [(0, .ref h), (1, .int (nI a)), (2, .int (nI b)), (3, .int (nI b)), (4, .int (nI a)), (5, .int (nI (a ^^^ b)))]) (pc := 26) F dX1_isEdge_26 (by decide) [1, 2, 3, 4, 5, 0] rfl ?_
    refine x_aload_n (pc := 28) F dX1_isEdge_28 0 rfl rfl ?_
    refine gM_graph (v := G 2 0) (pc := 29) F hK hin hm_graph rfl dX1_isEdge_29 ?_
    rcases (show (G 2 0) = 0 ∨ (G 2 0) = 1 ∨ (G 2 0) = 2 ∨ (G 2 0) = 3 ∨ 3 < (G 2 0) by omega) with hsw | hsw | hsw | hsw | hsw
    · refine x_tableN (k := 0) (tgt := 64) (pc := 32) F dX1_isEdge_32 hsw (by decide) (by decide) (by decide) rfl (by decide) ?_
      refine x_iload_n (pc := 64) F dX1_isEdge_64 1 rfl rfl ?_
      refine x_iload_n (pc := 65) F dX1_isEdge_65 2 rfl rfl ?_
      refine x_icmpN_eq (tgt := 73) (pc := 66) F dX1_isEdge_66 (by decide) (by omega) (by omega) (fun hc_66 => ?_) (fun hc_66 => ?_)
      · refine x_iconst (v := nI 0) (pc := 73) F dX1_isEdge_73 (by decide) ?_
        exact x_retz (w := wM) (ty := tM) (pc := 74) F hK hr hlk hQ0 (nar_z _ (by omega)) dX1_isEdge_74 (⟨rfl, congrArg nI (bN_f (fun z0 => by have z := edge_iff.mp z0; have z1 := z.1; have z2 := z.2.1; have z3 := z.2.2.1; have z4 := z.2.2.2.1; have z5 := z.2.2.2.2; omega)).symm⟩)
      · refine x_iconst (v := nI 1) (pc := 69) F dX1_isEdge_69 (by decide) ?_
        refine x_goto (tgt := 74) (pc := 70) F dX1_isEdge_70 (by decide) ?_
        exact x_retz (w := wM) (ty := tM) (pc := 74) F hK hr hlk hQ0 (nar_z _ (by omega)) dX1_isEdge_74 (⟨rfl, congrArg nI (bN_t (edge_iff.mpr ⟨by omega, fun z => by omega, fun z => by omega, fun z => by omega, fun z => by omega⟩)).symm⟩)
    · refine x_tableN (k := 1) (tgt := 75) (pc := 32) F dX1_isEdge_32 hsw (by decide) (by decide) (by decide) rfl (by decide) ?_
      refine x_iload (pc := 75) F dX1_isEdge_75 4 rfl ?_
      refine x_iload_n (pc := 77) F dX1_isEdge_77 3 rfl rfl ?_
      refine x_isub (z := nI (a - b)) (pc := 78) F dX1_isEdge_78 (pk_sub (by omega)) ?_
      refine x_iconst (v := nI 1) (pc := 79) F dX1_isEdge_79 (by decide) ?_
      refine x_icmpN_eq (tgt := 98) (pc := 80) F dX1_isEdge_80 (by decide) (by omega) (by decide) (fun hc_80 => ?_) (fun hc_80 => ?_)
      · refine x_iconst (v := nI 1) (pc := 98) F dX1_isEdge_98 (by decide) ?_
        refine x_goto (tgt := 103) (pc := 99) F dX1_isEdge_99 (by decide) ?_
        exact x_retz (w := wM) (ty := tM) (pc := 103) F hK hr hlk hQ0 (nar_z _ (by omega)) dX1_isEdge_103 (⟨rfl, congrArg nI (bN_t (edge_iff.mpr ⟨by omega, fun z => by omega, fun z => by omega, fun z => by omega, fun z => by omega⟩)).symm⟩)
      · refine x_iload_n (pc := 83) F dX1_isEdge_83 3 rfl rfl ?_
        refine x_ifN_ne (tgt := 102) (pc := 84) F dX1_isEdge_84 (by decide) (by omega) (fun hc_84 => ?_) (fun hc_84 => ?_)
        · refine x_iconst (v := nI 0) (pc := 102) F dX1_isEdge_102 (by decide) ?_
          exact x_retz (w := wM) (ty := tM) (pc := 103) F hK hr hlk hQ0 (nar_z _ (by omega)) dX1_isEdge_103 (⟨rfl, congrArg nI (bN_f (fun z0 => by have z := edge_iff.mp z0; have z1 := z.1; have z2 := z.2.1; have z3 := z.2.2.1; have z4 := z.2.2.2.1; have z5 := z.2.2.2.2; omega)).symm⟩)
        · refine x_iload (pc := 87) F dX1_isEdge_87 4 rfl ?_
          refine x_aload_n (pc := 89) F dX1_isEdge_89 0 rfl rfl ?_
          refine gM_persons (v := G 0 0) (pc := 90) F hK hin hm_persons rfl dX1_isEdge_90 ?_
          refine x_iconst (v := nI 1) (pc := 93) F dX1_isEdge_93 (by decide) ?_
          refine x_isub (z := nI (G 0 0 - 1)) (pc := 94) F dX1_isEdge_94 (pk_sub (by omega)) ?_
          refine x_icmpN_ne (tgt := 102) (pc := 95) F dX1_isEdge_95 (by decide) (by omega) (by omega) (fun hc_95 => ?_) (fun hc_95 => ?_)
          · refine x_iconst (v := nI 0) (pc := 102) F dX1_isEdge_102 (by decide) ?_
            exact x_retz (w := wM) (ty := tM) (pc := 103) F hK hr hlk hQ0 (nar_z _ (by omega)) dX1_isEdge_103 (⟨rfl, congrArg nI (bN_f (fun z0 => by have z := edge_iff.mp z0; have z1 := z.1; have z2 := z.2.1; have z3 := z.2.2.1; have z4 := z.2.2.2.1; have z5 := z.2.2.2.2; omega)).symm⟩)
          · refine x_iconst (v := nI 1) (pc := 98) F dX1_isEdge_98 (by decide) ?_
            refine x_goto (tgt := 103) (pc := 99) F dX1_isEdge_99 (by decide) ?_
            exact x_retz (w := wM) (ty := tM) (pc := 103) F hK hr hlk hQ0 (nar_z _ (by omega)) dX1_isEdge_103 (⟨rfl, congrArg nI (bN_t (edge_iff.mpr ⟨by omega, fun z => by omega, fun z => by omega, fun z => by omega, fun z => by omega⟩)).symm⟩)
    · refine x_tableN (k := 2) (tgt := 104) (pc := 32) F dX1_isEdge_32 hsw (by decide) (by decide) (by decide) rfl (by decide) ?_
      refine x_iload (pc := 104) F dX1_isEdge_104 4 rfl ?_
      refine x_iload_n (pc := 106) F dX1_isEdge_106 3 rfl rfl ?_
      refine x_isub (z := nI (a - b)) (pc := 107) F dX1_isEdge_107 (pk_sub (by omega)) ?_
      refine x_iconst (v := nI 1) (pc := 108) F dX1_isEdge_108 (by decide) ?_
      refine x_icmpN_ne (tgt := 116) (pc := 109) F dX1_isEdge_109 (by decide) (by omega) (by decide) (fun hc_109 => ?_) (fun hc_109 => ?_)
      · refine x_iconst (v := nI 0) (pc := 116) F dX1_isEdge_116 (by decide) ?_
        exact x_retz (w := wM) (ty := tM) (pc := 117) F hK hr hlk hQ0 (nar_z _ (by omega)) dX1_isEdge_117 (⟨rfl, congrArg nI (bN_f (fun z0 => by have z := edge_iff.mp z0; have z1 := z.1; have z2 := z.2.1; have z3 := z.2.2.1; have z4 := z.2.2.2.1; have z5 := z.2.2.2.2; omega)).symm⟩)
      · refine x_iconst (v := nI 1) (pc := 112) F dX1_isEdge_112 (by decide) ?_
        refine x_goto (tgt := 117) (pc := 113) F dX1_isEdge_113 (by decide) ?_
        exact x_retz (w := wM) (ty := tM) (pc := 117) F hK hr hlk hQ0 (nar_z _ (by omega)) dX1_isEdge_117 (⟨rfl, congrArg nI (bN_t (edge_iff.mpr ⟨by omega, fun z => by omega, fun z => by omega, fun z => by omega, fun z => by omega⟩)).symm⟩)
    · refine x_tableN (k := 3) (tgt := 118) (pc := 32) F dX1_isEdge_32 hsw (by decide) (by decide) (by decide) rfl (by decide) ?_
      refine x_iload_n (pc := 118) F dX1_isEdge_118 3 rfl rfl ?_
      refine x_ifN_ne (tgt := 131) (pc := 119) F dX1_isEdge_119 (by decide) (by omega) (fun hc_119 => ?_) (fun hc_119 => ?_)
      · refine x_iconst (v := nI 0) (pc := 131) F dX1_isEdge_131 (by decide) ?_
        exact x_retz (w := wM) (ty := tM) (pc := 132) F hK hr hlk hQ0 (nar_z _ (by omega)) dX1_isEdge_132 (⟨rfl, congrArg nI (bN_f (fun z0 => by have z := edge_iff.mp z0; have z1 := z.1; have z2 := z.2.1; have z3 := z.2.2.1; have z4 := z.2.2.2.1; have z5 := z.2.2.2.2; omega)).symm⟩)
      · refine x_iload (pc := 122) F dX1_isEdge_122 4 rfl ?_
        refine x_ifN_le (tgt := 131) (pc := 124) F dX1_isEdge_124 (by decide) (by omega) (fun hc_124 => ?_) (fun hc_124 => ?_)
        · refine x_iconst (v := nI 0) (pc := 131) F dX1_isEdge_131 (by decide) ?_
          exact x_retz (w := wM) (ty := tM) (pc := 132) F hK hr hlk hQ0 (nar_z _ (by omega)) dX1_isEdge_132 (⟨rfl, congrArg nI (bN_f (fun z0 => by have z := edge_iff.mp z0; have z1 := z.1; have z2 := z.2.1; have z3 := z.2.2.1; have z4 := z.2.2.2.1; have z5 := z.2.2.2.2; omega)).symm⟩)
        · refine x_iconst (v := nI 1) (pc := 127) F dX1_isEdge_127 (by decide) ?_
          refine x_goto (tgt := 132) (pc := 128) F dX1_isEdge_128 (by decide) ?_
          exact x_retz (w := wM) (ty := tM) (pc := 132) F hK hr hlk hQ0 (nar_z _ (by omega)) dX1_isEdge_132 (⟨rfl, congrArg nI (bN_t (edge_iff.mpr ⟨by omega, fun z => by omega, fun z => by omega, fun z => by omega, fun z => by omega⟩)).symm⟩)
    · refine x_tableNO (tgt := 133) (pc := 32) F dX1_isEdge_32 (by omega) (Or.inr (by omega)) (by decide) ?_
      refine x_iload (pc := 133) F dX1_isEdge_133 5 rfl ?_
      refine x_iconst (v := nI 1) (pc := 135) F dX1_isEdge_135 (by decide) ?_
      refine x_icmpN_eq (tgt := 151) (pc := 136) F dX1_isEdge_136 (by decide) (by omega) (by decide) (fun hc_136 => ?_) (fun hc_136 => ?_)
      · refine x_iconst (v := nI 1) (pc := 151) F dX1_isEdge_151 (by decide) ?_
        refine x_goto (tgt := 156) (pc := 152) F dX1_isEdge_152 (by decide) ?_
        exact x_retz (w := wM) (ty := tM) (pc := 156) F hK hr hlk hQ0 (nar_z _ (by omega)) dX1_isEdge_156 (⟨rfl, congrArg nI (bN_t (edge_iff.mpr ⟨by omega, fun z => by omega, fun z => by omega, fun z => by omega, fun z => by omega⟩)).symm⟩)
      · refine x_iload (pc := 139) F dX1_isEdge_139 5 rfl ?_
        refine x_iconst (v := nI 2) (pc := 141) F dX1_isEdge_141 (by decide) ?_
        refine x_icmpN_eq (tgt := 151) (pc := 142) F dX1_isEdge_142 (by decide) (by omega) (by decide) (fun hc_142 => ?_) (fun hc_142 => ?_)
        · refine x_iconst (v := nI 1) (pc := 151) F dX1_isEdge_151 (by decide) ?_
          refine x_goto (tgt := 156) (pc := 152) F dX1_isEdge_152 (by decide) ?_
          exact x_retz (w := wM) (ty := tM) (pc := 156) F hK hr hlk hQ0 (nar_z _ (by omega)) dX1_isEdge_156 (⟨rfl, congrArg nI (bN_t (edge_iff.mpr ⟨by omega, fun z => by omega, fun z => by omega, fun z => by omega, fun z => by omega⟩)).symm⟩)
        · refine x_iload (pc := 145) F dX1_isEdge_145 5 rfl ?_
          refine x_iconst (v := nI 4) (pc := 147) F dX1_isEdge_147 (by decide) ?_
          refine x_icmpN_ne (tgt := 155) (pc := 148) F dX1_isEdge_148 (by decide) (by omega) (by decide) (fun hc_148 => ?_) (fun hc_148 => ?_)
          · refine x_iconst (v := nI 0) (pc := 155) F dX1_isEdge_155 (by decide) ?_
            exact x_retz (w := wM) (ty := tM) (pc := 156) F hK hr hlk hQ0 (nar_z _ (by omega)) dX1_isEdge_156 (⟨rfl, congrArg nI (bN_f (fun z0 => by have z := edge_iff.mp z0; have z1 := z.1; have z2 := z.2.1; have z3 := z.2.2.1; have z4 := z.2.2.2.1; have z5 := z.2.2.2.2; omega)).symm⟩)
          · refine x_iconst (v := nI 1) (pc := 151) F dX1_isEdge_151 (by decide) ?_
            refine x_goto (tgt := 156) (pc := 152) F dX1_isEdge_152 (by decide) ?_
            exact x_retz (w := wM) (ty := tM) (pc := 156) F hK hr hlk hQ0 (nar_z _ (by omega)) dX1_isEdge_156 (⟨rfl, congrArg nI (bN_t (edge_iff.mpr ⟨by omega, fun z => by omega, fun z => by omega, fun z => by omega, fun z => by omega⟩)).symm⟩)
  · refine x_iload_n (pc := 5) F dX1_isEdge_5 1 rfl rfl ?_
    refine x_goto (tgt := 10) (pc := 6) F dX1_isEdge_6 (by decide) ?_
    refine x_istore_n (lv' := [(0, .ref h), (1, .int (nI a)), (2, .int (nI b)), (3, .int (nI a))]) (pc := 10) F dX1_isEdge_10 rfl (by decide) [1, 2, 3, 0] rfl ?_
    refine x_iload_n (pc := 11) F dX1_isEdge_11 1 rfl rfl ?_
    refine x_iload_n (pc := 12) F dX1_isEdge_12 2 rfl rfl ?_
    refine x_icmpN_ge (tgt := 20) (pc := 13) F dX1_isEdge_13 (by decide) (by omega) (by omega) (fun hc_13 => absurd hc_13 (by omega)) (fun hc_13 => ?_)
    refine x_iload_n (pc := 16) F dX1_isEdge_16 2 rfl rfl ?_
    refine x_goto (tgt := 21) (pc := 17) F dX1_isEdge_17 (by decide) ?_
    refine x_istore (lv' := [(0, .ref h), (1, .int (nI a)), (2, .int (nI b)), (3, .int (nI a)), (4, .int (nI b))]) (pc := 21) F dX1_isEdge_21 (by decide) [1, 2, 3, 4, 0] rfl ?_
    refine x_iload_n (pc := 23) F dX1_isEdge_23 1 rfl rfl ?_
    refine x_iload_n (pc := 24) F dX1_isEdge_24 2 rfl rfl ?_
    refine x_ixor (z := nI (a ^^^ b)) (pc := 25) F dX1_isEdge_25 (nx_xor a b) ?_
    refine x_istore (lv' := [(0, .ref h), (1, .int (nI a)), (2, .int (nI b)), (3, .int (nI a)), (4, .int (nI b)), (5, .int (nI (a ^^^ b)))]) (pc := 26) F dX1_isEdge_26 (by decide) [1, 2, 3, 4, 5, 0] rfl ?_
    refine x_aload_n (pc := 28) F dX1_isEdge_28 0 rfl rfl ?_
    refine gM_graph (v := G 2 0) (pc := 29) F hK hin hm_graph rfl dX1_isEdge_29 ?_
    rcases (show (G 2 0) = 0 ∨ (G 2 0) = 1 ∨ (G 2 0) = 2 ∨ (G 2 0) = 3 ∨ 3 < (G 2 0) by omega) with hsw | hsw | hsw | hsw | hsw
    · refine x_tableN (k := 0) (tgt := 64) (pc := 32) F dX1_isEdge_32 hsw (by decide) (by decide) (by decide) rfl (by decide) ?_
      refine x_iload_n (pc := 64) F dX1_isEdge_64 1 rfl rfl ?_
      refine x_iload_n (pc := 65) F dX1_isEdge_65 2 rfl rfl ?_
      refine x_icmpN_eq (tgt := 73) (pc := 66) F dX1_isEdge_66 (by decide) (by omega) (by omega) (fun hc_66 => ?_) (fun hc_66 => ?_)
      · refine x_iconst (v := nI 0) (pc := 73) F dX1_isEdge_73 (by decide) ?_
        exact x_retz (w := wM) (ty := tM) (pc := 74) F hK hr hlk hQ0 (nar_z _ (by omega)) dX1_isEdge_74 (⟨rfl, congrArg nI (bN_f (fun z0 => by have z := edge_iff.mp z0; have z1 := z.1; have z2 := z.2.1; have z3 := z.2.2.1; have z4 := z.2.2.2.1; have z5 := z.2.2.2.2; omega)).symm⟩)
      · refine x_iconst (v := nI 1) (pc := 69) F dX1_isEdge_69 (by decide) ?_
        refine x_goto (tgt := 74) (pc := 70) F dX1_isEdge_70 (by decide) ?_
        exact x_retz (w := wM) (ty := tM) (pc := 74) F hK hr hlk hQ0 (nar_z _ (by omega)) dX1_isEdge_74 (⟨rfl, congrArg nI (bN_t (edge_iff.mpr ⟨by omega, fun z => by omega, fun z => by omega, fun z => by omega, fun z => by omega⟩)).symm⟩)
    · refine x_tableN (k := 1) (tgt := 75) (pc := 32) F dX1_isEdge_32 hsw (by decide) (by decide) (by decide) rfl (by decide) ?_
      refine x_iload (pc := 75) F dX1_isEdge_75 4 rfl ?_
      refine x_iload_n (pc := 77) F dX1_isEdge_77 3 rfl rfl ?_
      refine x_isub (z := nI (b - a)) (pc := 78) F dX1_isEdge_78 (pk_sub (by omega)) ?_
      refine x_iconst (v := nI 1) (pc := 79) F dX1_isEdge_79 (by decide) ?_
      refine x_icmpN_eq (tgt := 98) (pc := 80) F dX1_isEdge_80 (by decide) (by omega) (by decide) (fun hc_80 => ?_) (fun hc_80 => ?_)
      · refine x_iconst (v := nI 1) (pc := 98) F dX1_isEdge_98 (by decide) ?_
        refine x_goto (tgt := 103) (pc := 99) F dX1_isEdge_99 (by decide) ?_
        exact x_retz (w := wM) (ty := tM) (pc := 103) F hK hr hlk hQ0 (nar_z _ (by omega)) dX1_isEdge_103 (⟨rfl, congrArg nI (bN_t (edge_iff.mpr ⟨by omega, fun z => by omega, fun z => by omega, fun z => by omega, fun z => by omega⟩)).symm⟩)
      · refine x_iload_n (pc := 83) F dX1_isEdge_83 3 rfl rfl ?_
        refine x_ifN_ne (tgt := 102) (pc := 84) F dX1_isEdge_84 (by decide) (by omega) (fun hc_84 => ?_) (fun hc_84 => ?_)
        · refine x_iconst (v := nI 0) (pc := 102) F dX1_isEdge_102 (by decide) ?_
          exact x_retz (w := wM) (ty := tM) (pc := 103) F hK hr hlk hQ0 (nar_z _ (by omega)) dX1_isEdge_103 (⟨rfl, congrArg nI (bN_f (fun z0 => by have z := edge_iff.mp z0; have z1 := z.1; have z2 := z.2.1; have z3 := z.2.2.1; have z4 := z.2.2.2.1; have z5 := z.2.2.2.2; omega)).symm⟩)
        · refine x_iload (pc := 87) F dX1_isEdge_87 4 rfl ?_
          refine x_aload_n (pc := 89) F dX1_isEdge_89 0 rfl rfl ?_
          refine gM_persons (v := G 0 0) (pc := 90) F hK hin hm_persons rfl dX1_isEdge_90 ?_
          refine x_iconst (v := nI 1) (pc := 93) F dX1_isEdge_93 (by decide) ?_
          refine x_isub (z := nI (G 0 0 - 1)) (pc := 94) F dX1_isEdge_94 (pk_sub (by omega)) ?_
          refine x_icmpN_ne (tgt := 102) (pc := 95) F dX1_isEdge_95 (by decide) (by omega) (by omega) (fun hc_95 => ?_) (fun hc_95 => ?_)
          · refine x_iconst (v := nI 0) (pc := 102) F dX1_isEdge_102 (by decide) ?_
            exact x_retz (w := wM) (ty := tM) (pc := 103) F hK hr hlk hQ0 (nar_z _ (by omega)) dX1_isEdge_103 (⟨rfl, congrArg nI (bN_f (fun z0 => by have z := edge_iff.mp z0; have z1 := z.1; have z2 := z.2.1; have z3 := z.2.2.1; have z4 := z.2.2.2.1; have z5 := z.2.2.2.2; omega)).symm⟩)
          · refine x_iconst (v := nI 1) (pc := 98) F dX1_isEdge_98 (by decide) ?_
            refine x_goto (tgt := 103) (pc := 99) F dX1_isEdge_99 (by decide) ?_
            exact x_retz (w := wM) (ty := tM) (pc := 103) F hK hr hlk hQ0 (nar_z _ (by omega)) dX1_isEdge_103 (⟨rfl, congrArg nI (bN_t (edge_iff.mpr ⟨by omega, fun z => by omega, fun z => by omega, fun z => by omega, fun z => by omega⟩)).symm⟩)
    · refine x_tableN (k := 2) (tgt := 104) (pc := 32) F dX1_isEdge_32 hsw (by decide) (by decide) (by decide) rfl (by decide) ?_
      refine x_iload (pc := 104) F dX1_isEdge_104 4 rfl ?_
      refine x_iload_n (pc := 106) F dX1_isEdge_106 3 rfl rfl ?_
      refine x_isub (z := nI (b - a)) (pc := 107) F dX1_isEdge_107 (pk_sub (by omega)) ?_
      refine x_iconst (v := nI 1) (pc := 108) F dX1_isEdge_108 (by decide) ?_
      refine x_icmpN_ne (tgt := 116) (pc := 109) F dX1_isEdge_109 (by decide) (by omega) (by decide) (fun hc_109 => ?_) (fun hc_109 => ?_)
      · refine x_iconst (v := nI 0) (pc := 116) F dX1_isEdge_116 (by decide) ?_
        exact x_retz (w := wM) (ty := tM) (pc := 117) F hK hr hlk hQ0 (nar_z _ (by omega)) dX1_isEdge_117 (⟨rfl, congrArg nI (bN_f (fun z0 => by have z := edge_iff.mp z0; have z1 := z.1; have z2 := z.2.1; have z3 := z.2.2.1; have z4 := z.2.2.2.1; have z5 := z.2.2.2.2; omega)).symm⟩)
      · refine x_iconst (v := nI 1) (pc := 112) F dX1_isEdge_112 (by decide) ?_
        refine x_goto (tgt := 117) (pc := 113) F dX1_isEdge_113 (by decide) ?_
        exact x_retz (w := wM) (ty := tM) (pc := 117) F hK hr hlk hQ0 (nar_z _ (by omega)) dX1_isEdge_117 (⟨rfl, congrArg nI (bN_t (edge_iff.mpr ⟨by omega, fun z => by omega, fun z => by omega, fun z => by omega, fun z => by omega⟩)).symm⟩)
    · refine x_tableN (k := 3) (tgt := 118) (pc := 32) F dX1_isEdge_32 hsw (by decide) (by decide) (by decide) rfl (by decide) ?_
      refine x_iload_n (pc := 118) F dX1_isEdge_118 3 rfl rfl ?_
      refine x_ifN_ne (tgt := 131) (pc := 119) F dX1_isEdge_119 (by decide) (by omega) (fun hc_119 => ?_) (fun hc_119 => ?_)
      · refine x_iconst (v := nI 0) (pc := 131) F dX1_isEdge_131 (by decide) ?_
        exact x_retz (w := wM) (ty := tM) (pc := 132) F hK hr hlk hQ0 (nar_z _ (by omega)) dX1_isEdge_132 (⟨rfl, congrArg nI (bN_f (fun z0 => by have z := edge_iff.mp z0; have z1 := z.1; have z2 := z.2.1; have z3 := z.2.2.1; have z4 := z.2.2.2.1; have z5 := z.2.2.2.2; omega)).symm⟩)
      · refine x_iload (pc := 122) F dX1_isEdge_122 4 rfl ?_
        refine x_ifN_le (tgt := 131) (pc := 124) F dX1_isEdge_124 (by decide) (by omega) (fun hc_124 => ?_) (fun hc_124 => ?_)
        · refine x_iconst (v := nI 0) (pc := 131) F dX1_isEdge_131 (by decide) ?_
          exact x_retz (w := wM) (ty := tM) (pc := 132) F hK hr hlk hQ0 (nar_z _ (by omega)) dX1_isEdge_132 (⟨rfl, congrArg nI (bN_f (fun z0 => by have z := edge_iff.mp z0; have z1 := z.1; have z2 := z.2.1; have z3 := z.2.2.1; have z4 := z.2.2.2.1; have z5 := z.2.2.2.2; omega)).symm⟩)
        · refine x_iconst (v := nI 1) (pc := 127) F dX1_isEdge_127 (by decide) ?_
          refine x_goto (tgt := 132) (pc := 128) F dX1_isEdge_128 (by decide) ?_
          exact x_retz (w := wM) (ty := tM) (pc := 132) F hK hr hlk hQ0 (nar_z _ (by omega)) dX1_isEdge_132 (⟨rfl, congrArg nI (bN_t (edge_iff.mpr ⟨by omega, fun z => by omega, fun z => by omega, fun z => by omega, fun z => by omega⟩)).symm⟩)
    · refine x_tableNO (tgt := 133) (pc := 32) F dX1_isEdge_32 (by omega) (Or.inr (by omega)) (by decide) ?_
      refine x_iload (pc := 133) F dX1_isEdge_133 5 rfl ?_
      refine x_iconst (v := nI 1) (pc := 135) F dX1_isEdge_135 (by decide) ?_
      refine x_icmpN_eq (tgt := 151) (pc := 136) F dX1_isEdge_136 (by decide) (by omega) (by decide) (fun hc_136 => ?_) (fun hc_136 => ?_)
      · refine x_iconst (v := nI 1) (pc := 151) F dX1_isEdge_151 (by decide) ?_
        refine x_goto (tgt := 156) (pc := 152) F dX1_isEdge_152 (by decide) ?_
        exact x_retz (w := wM) (ty := tM) (pc := 156) F hK hr hlk hQ0 (nar_z _ (by omega)) dX1_isEdge_156 (⟨rfl, congrArg nI (bN_t (edge_iff.mpr ⟨by omega, fun z => by omega, fun z => by omega, fun z => by omega, fun z => by omega⟩)).symm⟩)
      · refine x_iload (pc := 139) F dX1_isEdge_139 5 rfl ?_
        refine x_iconst (v := nI 2) (pc := 141) F dX1_isEdge_141 (by decide) ?_
        refine x_icmpN_eq (tgt := 151) (pc := 142) F dX1_isEdge_142 (by decide) (by omega) (by decide) (fun hc_142 => ?_) (fun hc_142 => ?_)
        · refine x_iconst (v := nI 1) (pc := 151) F dX1_isEdge_151 (by decide) ?_
          refine x_goto (tgt := 156) (pc := 152) F dX1_isEdge_152 (by decide) ?_
          exact x_retz (w := wM) (ty := tM) (pc := 156) F hK hr hlk hQ0 (nar_z _ (by omega)) dX1_isEdge_156 (⟨rfl, congrArg nI (bN_t (edge_iff.mpr ⟨by omega, fun z => by omega, fun z => by omega, fun z => by omega, fun z => by omega⟩)).symm⟩)
        · refine x_iload (pc := 145) F dX1_isEdge_145 5 rfl ?_
          refine x_iconst (v := nI 4) (pc := 147) F dX1_isEdge_147 (by decide) ?_
          refine x_icmpN_ne (tgt := 155) (pc := 148) F dX1_isEdge_148 (by decide) (by omega) (by decide) (fun hc_148 => ?_) (fun hc_148 => ?_)
          · refine x_iconst (v := nI 0) (pc := 155) F dX1_isEdge_155 (by decide) ?_
            exact x_retz (w := wM) (ty := tM) (pc := 156) F hK hr hlk hQ0 (nar_z _ (by omega)) dX1_isEdge_156 (⟨rfl, congrArg nI (bN_f (fun z0 => by have z := edge_iff.mp z0; have z1 := z.1; have z2 := z.2.1; have z3 := z.2.2.1; have z4 := z.2.2.2.1; have z5 := z.2.2.2.2; omega)).symm⟩)
          · refine x_iconst (v := nI 1) (pc := 151) F dX1_isEdge_151 (by decide) ?_
            refine x_goto (tgt := 156) (pc := 152) F dX1_isEdge_152 (by decide) ?_
            exact x_retz (w := wM) (ty := tM) (pc := 156) F hK hr hlk hQ0 (nar_z _ (by omega)) dX1_isEdge_156 (⟨rfl, congrArg nI (bN_t (edge_iff.mpr ⟨by omega, fun z => by omega, fun z => by omega, fun z => by omega, fun z => by omega⟩)).symm⟩)
set_option maxHeartbeats 4000000 in
set_option maxRecDepth 100000 in
theorem c_X1_areNeighbors (l : Launch) (G : GS) (K : Nat → Nat) (hs : Int64) (x y : Int32) (hG : ok G) : MCi wM tM l yX1_areNeighbors wsX1_areNeighbors ({ frames := 2, cells := 0, slots := 0, locals := 43 }) [.int (x), .int (y)] (G, K, hs) (fun r u => u = (G, K, hs) ∧ r = sp_areNeighbors G x y) := by
  have hG0 := hG
  obtain ⟨b1, b2, b3, b4, b5, b6, b7, b8, b9, b10, b11⟩ := hG0
  refine x_starti (cc := cX1_areNeighbors) (maxL := 3) (ret := (some .int)) (own := RX1) (by decide) rfl rfl (fun _ => Nat.le_of_ble_eq_true rfl) ?_
  intro p e s m args below meth c D h q cs F hK hr hlk Q0 hQ0
  refine x_lv (lv' := [(0, .ref h), (1, .int (x)), (2, .int (y))]) [0, 1, 2] rfl ?_
  refine x_aload_n (pc := 0) F dX1_areNeighbors_0 0 rfl rfl ?_
  refine x_iload_n (pc := 1) F dX1_areNeighbors_1 1 rfl rfl ?_
  refine x_calli (w := wM) (ty := tM) (pc := 2) F hK wM_in [.int (x)] [] (c_X1_isPerson l G K hs x ((x).toInt) rfl (by omega) (by omega)) (cwV 1 F.2.2.2.2 gX1_areNeighbors_X1_isPerson rfl rfl rfl (by decide +kernel) ⟨Nat.le_of_ble_eq_true rfl, Nat.le_of_ble_eq_true rfl⟩) rfl rfl rfl rfl (Nat.le_of_ble_eq_true rfl) dX1_areNeighbors_2 ?_
  rintro _ _ ⟨rfl, rfl⟩
  refine x_ifB_eq (tgt := 16) (pc := 5) F dX1_areNeighbors_5 (by decide) (fun hc_5 => ?_) (fun hc_5 => ?_)
  · refine x_bipush (v := -6) (pc := 16) F dX1_areNeighbors_16 (by decide) ?_
    exact x_reti (w := wM) (ty := tM) (pc := 18) F hK hr hlk hQ0 dX1_areNeighbors_18 (⟨rfl, by rw [sp_areNeighbors, if_neg (by unfold inR; omega)]⟩)
  · refine x_aload_n (pc := 8) F dX1_areNeighbors_8 0 rfl rfl ?_
    refine x_iload_n (pc := 9) F dX1_areNeighbors_9 2 rfl rfl ?_
    refine x_calli (w := wM) (ty := tM) (pc := 10) F hK wM_in [.int (y)] [] (c_X1_isPerson l G K hs y ((y).toInt) rfl (by omega) (by omega)) (cwV 1 F.2.2.2.2 gX1_areNeighbors_X1_isPerson rfl rfl rfl (by decide +kernel) ⟨Nat.le_of_ble_eq_true rfl, Nat.le_of_ble_eq_true rfl⟩) rfl rfl rfl rfl (Nat.le_of_ble_eq_true rfl) dX1_areNeighbors_10 ?_
    rintro _ _ ⟨rfl, rfl⟩
    refine x_ifB_ne (tgt := 19) (pc := 13) F dX1_areNeighbors_13 (by decide) (fun hc_13 => ?_) (fun hc_13 => ?_)
    · obtain ⟨ja, h_ja, rfl⟩ := nI_ofR (x := x) (n := G 0 0) (by omega) (by omega)
      have e_ja : (nI ja).toInt = (ja : Int) := nI_toInt (by omega)
      obtain ⟨jb, h_jb, rfl⟩ := nI_ofR (x := y) (n := G 0 0) (by omega) (by omega)
      have e_jb : (nI jb).toInt = (jb : Int) := nI_toInt (by omega)
      refine x_aload_n (pc := 19) F dX1_areNeighbors_19 0 rfl rfl ?_
      refine x_iload_n (pc := 20) F dX1_areNeighbors_20 1 rfl rfl ?_
      refine x_iload_n (pc := 21) F dX1_areNeighbors_21 2 rfl rfl ?_
      refine x_calli (w := wM) (ty := tM) (pc := 22) F hK wM_in [.int (nI ja), .int (nI jb)] [] (c_X1_isEdge l G K hs ja jb (by have hq_0 : G 0 0 = G 0 0 := rfl; omega) (by have hq_0 : G 0 0 = G 0 0 := rfl; omega) (by have hq_0 : G 0 0 = G 0 0 := rfl; omega) (by have hq_2 : G 2 0 = G 2 0 := rfl; omega) (by have hq_0 : G 0 0 = G 0 0 := rfl; omega)) (cwV 2 F.2.2.2.2 gX1_areNeighbors_X1_isEdge rfl rfl rfl (by decide +kernel) ⟨Nat.le_of_ble_eq_true rfl, Nat.le_of_ble_eq_true rfl⟩) rfl rfl rfl rfl (Nat.le_of_ble_eq_true rfl) dX1_areNeighbors_22 ?_
      rintro _ _ ⟨rfl, rfl⟩
      refine x_ifB_eq (tgt := 32) (pc := 25) F dX1_areNeighbors_25 (by decide) (fun hc_25 => ?_) (fun hc_25 => ?_)
      · refine x_iconst (v := nI 0) (pc := 32) F dX1_areNeighbors_32 (by decide) ?_
        exact x_reti (w := wM) (ty := tM) (pc := 33) F hK hr hlk hQ0 dX1_areNeighbors_33 (⟨rfl, by rw [sp_areNeighbors, if_pos (by unfold inR; omega), toNat_nI (by omega), toNat_nI (by omega), bN_f hc_25]⟩)
      · refine x_iconst (v := nI 1) (pc := 28) F dX1_areNeighbors_28 (by decide) ?_
        refine x_goto (tgt := 33) (pc := 29) F dX1_areNeighbors_29 (by decide) ?_
        exact x_reti (w := wM) (ty := tM) (pc := 33) F hK hr hlk hQ0 dX1_areNeighbors_33 (⟨rfl, by rw [sp_areNeighbors, if_pos (by unfold inR; omega), toNat_nI (by omega), toNat_nI (by omega), bN_t hc_25]⟩)
    · refine x_bipush (v := -6) (pc := 16) F dX1_areNeighbors_16 (by decide) ?_
      exact x_reti (w := wM) (ty := tM) (pc := 18) F hK hr hlk hQ0 dX1_areNeighbors_18 (⟨rfl, by rw [sp_areNeighbors, if_neg (by unfold inR; omega)]⟩)
set_option maxHeartbeats 4000000 in
set_option maxRecDepth 100000 in
theorem c_X1_addRound (l : Launch) (G : GS) (K : Nat → Nat) (hs : Int64) (hG : ok G) : MCi wM tM l yX1_addRound wsX1_addRound ({ frames := 0, cells := 0, slots := 0, locals := 0 }) [] (G, K, hs) (fun r u => u = (sg_addRound G, K, hs) ∧ r = sp_addRound G) := by
  have hG0 := hG
  obtain ⟨b1, b2, b3, b4, b5, b6, b7, b8, b9, b10, b11⟩ := hG0
  refine x_starti (cc := cX1_addRound) (maxL := 1) (ret := (some .int)) (own := RX1) (by decide) rfl rfl (fun _ => Nat.le_of_ble_eq_true rfl) ?_
  intro p e s m args below meth c D h q cs F hK hr hlk Q0 hQ0
  refine x_lv (lv' := [(0, .ref h)]) [0] rfl ?_
  have hin : ∀ w ∈ wsX10, w ∈ wsX1_addRound := by decide +kernel
  have hm_rounds : Cond.fieldLink RX1 43 "GossipScheduleModel" "rounds" "I" ∈ wsX1_addRound := by decide +kernel
  refine x_aload_n (pc := 0) F dX1_addRound_0 0 rfl rfl ?_
  refine gM_rounds (v := G 3 0) (pc := 1) F hK hin hm_rounds rfl dX1_addRound_1 ?_
  refine x_bipush (v := nI 16) (pc := 4) F dX1_addRound_4 (by decide) ?_
  refine x_icmpN_ne (tgt := 12) (pc := 6) F dX1_addRound_6 (by decide) (by omega) (by decide) (fun hc_6 => ?_) (fun hc_6 => ?_)
  · refine x_aload_n (pc := 12) F dX1_addRound_12 0 rfl rfl ?_
    refine x_dup (pc := 13) F dX1_addRound_13 rfl ?_
    refine gM_rounds (v := G 3 0) (pc := 14) F hK hin hm_rounds rfl dX1_addRound_14 ?_
    refine x_iconst (v := nI 1) (pc := 17) F dX1_addRound_17 (by decide) ?_
    refine x_iadd (z := nI (G 3 0 + 1)) (pc := 18) F dX1_addRound_18 (nI_add (G 3 0) 1) ?_
    refine pM_rounds (pc := 19) F hK hin hm_rounds dX1_addRound_19 ?_
    refine x_aload_n (pc := 22) F dX1_addRound_22 0 rfl rfl ?_
    refine gM_rounds (v := G 3 0 + 1) (pc := 23) F hK hin hm_rounds rfl dX1_addRound_23 ?_
    exact x_reti (w := wM) (ty := tM) (pc := 26) F hK hr hlk hQ0 dX1_addRound_26 (⟨by rw [sg_addRound, if_pos (by omega)], by rw [sp_addRound, if_pos (by omega)]⟩)
  · refine x_bipush (v := -12) (pc := 9) F dX1_addRound_9 (by decide) ?_
    exact x_reti (w := wM) (ty := tM) (pc := 11) F hK hr hlk hQ0 dX1_addRound_11 (⟨by rw [sg_addRound, if_neg (by omega)], by rw [sp_addRound, if_neg (by omega)]⟩)
set_option maxHeartbeats 4000000 in
set_option maxRecDepth 100000 in
theorem c_X1_accepts (l : Launch) (G : GS) (K : Nat → Nat) (hs : Int64) (w : Nat) (hw : w < 2) (hm : G 1 0 ≤ 2) : MCi wM tM l yX1_accepts wsX1_accepts ({ frames := 0, cells := 0, slots := 0, locals := 0 }) [.int (nI w)] (G, K, hs) (fun r u => u = (G, K, hs) ∧ r = nI (bN (acc G w))) := by
  refine x_starti (cc := cX1_accepts) (maxL := 2) (ret := (some .boolean)) (own := RX1) (by decide) rfl rfl (fun _ => Nat.le_of_ble_eq_true rfl) ?_
  intro p e s m args below meth c D h q cs F hK hr hlk Q0 hQ0
  refine x_lv (lv' := [(0, .ref h), (1, .int (nI w))]) [0, 1] rfl ?_
  have hin : ∀ w ∈ wsX10, w ∈ wsX1_accepts := by decide +kernel
  have hm_mode : Cond.fieldLink RX1 37 "GossipScheduleModel" "mode" "I" ∈ wsX1_accepts := by decide +kernel
  refine x_aload_n (pc := 0) F dX1_accepts_0 0 rfl rfl ?_
  refine gM_mode (v := G 1 0) (pc := 1) F hK hin hm_mode rfl dX1_accepts_1 ?_
  refine x_ifN_eq (tgt := 24) (pc := 4) F dX1_accepts_4 (by decide) (by omega) (fun hc_4 => ?_) (fun hc_4 => ?_)
  · refine x_iconst (v := nI 1) (pc := 24) F dX1_accepts_24 (by decide) ?_
    refine x_goto (tgt := 29) (pc := 25) F dX1_accepts_25 (by decide) ?_
    exact x_retz (w := wM) (ty := tM) (pc := 29) F hK hr hlk hQ0 (nar_z _ (by omega)) dX1_accepts_29 (⟨rfl, congrArg nI (bN_t (by omega)).symm⟩)
  · refine x_iload_n (pc := 7) F dX1_accepts_7 1 rfl rfl ?_
    refine x_aload_n (pc := 8) F dX1_accepts_8 0 rfl rfl ?_
    refine gM_mode (v := G 1 0) (pc := 9) F hK hin hm_mode rfl dX1_accepts_9 ?_
    refine x_iconst (v := nI 2) (pc := 12) F dX1_accepts_12 (by decide) ?_
    refine x_icmpN_ne (tgt := 20) (pc := 13) F dX1_accepts_13 (by decide) (by omega) (by decide) (fun hc_13 => ?_) (fun hc_13 => ?_)
    · refine x_iconst (v := nI 0) (pc := 20) F dX1_accepts_20 (by decide) ?_
      refine x_icmpN_ne (tgt := 28) (pc := 21) F dX1_accepts_21 (by decide) (by omega) (by decide) (fun hc_21 => ?_) (fun hc_21 => ?_)
      · refine x_iconst (v := nI 0) (pc := 28) F dX1_accepts_28 (by decide) ?_
        exact x_retz (w := wM) (ty := tM) (pc := 29) F hK hr hlk hQ0 (nar_z _ (by omega)) dX1_accepts_29 (⟨rfl, congrArg nI (bN_f (by omega)).symm⟩)
      · refine x_iconst (v := nI 1) (pc := 24) F dX1_accepts_24 (by decide) ?_
        refine x_goto (tgt := 29) (pc := 25) F dX1_accepts_25 (by decide) ?_
        exact x_retz (w := wM) (ty := tM) (pc := 29) F hK hr hlk hQ0 (nar_z _ (by omega)) dX1_accepts_29 (⟨rfl, congrArg nI (bN_t (by omega)).symm⟩)
    · refine x_iconst (v := nI 1) (pc := 16) F dX1_accepts_16 (by decide) ?_
      refine x_goto (tgt := 21) (pc := 17) F dX1_accepts_17 (by decide) ?_
      refine x_icmpN_ne (tgt := 28) (pc := 21) F dX1_accepts_21 (by decide) (by omega) (by decide) (fun hc_21 => ?_) (fun hc_21 => ?_)
      · refine x_iconst (v := nI 0) (pc := 28) F dX1_accepts_28 (by decide) ?_
        exact x_retz (w := wM) (ty := tM) (pc := 29) F hK hr hlk hQ0 (nar_z _ (by omega)) dX1_accepts_29 (⟨rfl, congrArg nI (bN_f (by omega)).symm⟩)
      · refine x_iconst (v := nI 1) (pc := 24) F dX1_accepts_24 (by decide) ?_
        refine x_goto (tgt := 29) (pc := 25) F dX1_accepts_25 (by decide) ?_
        exact x_retz (w := wM) (ty := tM) (pc := 29) F hK hr hlk hQ0 (nar_z _ (by omega)) dX1_accepts_29 (⟨rfl, congrArg nI (bN_t (by omega)).symm⟩)
set_option maxHeartbeats 4000000 in
set_option maxRecDepth 100000 in
theorem c_X1_isBusy (l : Launch) (G : GS) (K : Nat → Nat) (hs : Int64) (pp : Nat) (hp : pp < 8) (hG : ok G) (h3 : G 3 0 ≠ 0) : MCi wM tM l yX1_isBusy wsX1_isBusy ({ frames := 0, cells := 0, slots := 0, locals := 0 }) [.int (nI pp)] (G, K, hs) (fun r u => u = (G, K, hs) ∧ r = nI (bN (busyB G pp = true))) := by
  have hG0 := hG
  obtain ⟨b1, b2, b3, b4, b5, b6, b7, b8, b9, b10, b11⟩ := hG0
  refine x_starti (cc := cX1_isBusy) (maxL := 4) (ret := (some .boolean)) (own := RX1) (by decide) rfl rfl (fun _ => Nat.le_of_ble_eq_true rfl) ?_
  intro p e s m args below meth c D h q cs F hK hr hlk Q0 hQ0
  refine x_lv (lv' := [(0, .ref h), (1, .int (nI pp))]) [0, 1] rfl ?_
  have hin : ∀ w ∈ wsX10, w ∈ wsX1_isBusy := by decide +kernel
  have hm_calls : Cond.fieldLink RX1 46 "GossipScheduleModel" "calls" "I" ∈ wsX1_isBusy := by decide +kernel
  have hm_roundOf : Cond.fieldLink RX1 13 "GossipScheduleModel" "roundOf" "[I" ∈ wsX1_isBusy := by decide +kernel
  have hm_rounds : Cond.fieldLink RX1 43 "GossipScheduleModel" "rounds" "I" ∈ wsX1_isBusy := by decide +kernel
  have hm_callerOf : Cond.fieldLink RX1 17 "GossipScheduleModel" "callerOf" "[I" ∈ wsX1_isBusy := by decide +kernel
  have hm_calleeOf : Cond.fieldLink RX1 20 "GossipScheduleModel" "calleeOf" "[I" ∈ wsX1_isBusy := by decide +kernel
  refine x_iconst (v := nI 0) (pc := 0) F dX1_isBusy_0 (by decide) ?_
  refine x_istore_n (lv' := [(0, .ref h), (1, .int (nI pp)), (2, .int (nI 0))]) (pc := 1) F dX1_isBusy_1 rfl (by decide) [1, 2, 0] rfl ?_
  refine x_iconst (v := nI 0) (pc := 2) F dX1_isBusy_2 (by decide) ?_
  refine x_istore_n (lv' := [(0, .ref h), (1, .int (nI pp)), (2, .int (nI 0)), (3, .int (nI 0))]) (pc := 3) F dX1_isBusy_3 rfl (by decide) [1, 2, 3, 0] rfl ?_
  have cut_4 : ∀ (fu : Nat) (i : Nat) (z : Nat), (i ≤ G 4 0) → (z = bN (anyB (busyF G pp) i = true)) → (z < 2) → (G 4 0 - i) < fu → V p l e ({ frames := 0, cells := 0, slots := 0, locals := 0 }) s m args below meth c 4 0 0 Q0 (IC wM D h q cs s (G, K, hs)) 4 [(0, .ref h), (1, .int (nI pp)), (2, .int (nI z)), (3, .int (nI i))] [] := by
    intro fu
    induction fu with
    | zero => intro i z hi hz hz2 hfu; exact absurd hfu (Nat.not_lt_zero _)
    | succ fu ih_4 =>
      intro i z hi hz hz2 hfu
      refine x_iload_n (pc := 4) F dX1_isBusy_4 3 rfl rfl ?_
      refine x_aload_n (pc := 5) F dX1_isBusy_5 0 rfl rfl ?_
      refine gM_calls (v := G 4 0) (pc := 6) F hK hin hm_calls rfl dX1_isBusy_6 ?_
      refine x_icmpN_ge (tgt := 63) (pc := 9) F dX1_isBusy_9 (by decide) (by omega) (by omega) (fun hc_9 => ?_) (fun hc_9 => ?_)
      · refine x_iload_n (pc := 63) F dX1_isBusy_63 2 rfl rfl ?_
        exact x_retz (w := wM) (ty := tM) (pc := 64) F hK hr hlk hQ0 (nar_z _ (by omega)) dX1_isBusy_64 (⟨rfl, by rw [hz, show i = G 4 0 by omega]; rfl⟩)
      · have hj := b8 i (by omega)
        refine x_iload_n (pc := 12) F dX1_isBusy_12 2 rfl rfl ?_
        refine x_ifN_ne (tgt := 51) (pc := 13) F dX1_isBusy_13 (by decide) (by omega) (fun hc_13 => ?_) (fun hc_13 => ?_)
        · refine x_iconst (v := nI 1) (pc := 51) F dX1_isBusy_51 (by decide) ?_
          refine x_goto (tgt := 56) (pc := 52) F dX1_isBusy_52 (by decide) ?_
          refine x_istore_n (lv' := [(0, .ref h), (1, .int (nI pp)), (2, .int (nI 1)), (3, .int (nI i))]) (pc := 56) F dX1_isBusy_56 rfl (by decide) [1, 2, 0, 3] rfl ?_
          refine x_iinc (v := nI (i + 1)) (lv' := [(0, .ref h), (1, .int (nI pp)), (2, .int (nI 1)), (3, .int (nI (i + 1)))]) (pc := 57) F dX1_isBusy_57 3 rfl (nx_inc (b := 1) i (by decide)) (by decide) [1, 2, 3, 0] rfl ?_
          refine x_goto (tgt := 4) (pc := 60) F dX1_isBusy_60 (by decide) ?_
          refine x_lv [0, 1, 2, 3] rfl ?_
          exact ih_4 (i + 1) 1 (by omega) (any_t1 hz hc_13) (by decide) (by omega)
        · refine x_aload_n (pc := 16) F dX1_isBusy_16 0 rfl rfl ?_
          refine gM_roundOf (pc := 17) F hK hin hm_roundOf dX1_isBusy_17 ?_
          refine x_iload_n (pc := 20) F dX1_isBusy_20 3 rfl rfl ?_
          refine lM_roundOf (v := G 5 i) (pc := 21) F hK dX1_isBusy_21 (by omega) rfl ?_
          refine x_aload_n (pc := 22) F dX1_isBusy_22 0 rfl rfl ?_
          refine gM_rounds (v := G 3 0) (pc := 23) F hK hin hm_rounds rfl dX1_isBusy_23 ?_
          refine x_iconst (v := nI 1) (pc := 26) F dX1_isBusy_26 (by decide) ?_
          refine x_isub (z := nI (G 3 0 - 1)) (pc := 27) F dX1_isBusy_27 (pk_sub (by omega)) ?_
          refine x_icmpN_ne (tgt := 55) (pc := 28) F dX1_isBusy_28 (by decide) (by omega) (by omega) (fun hc_28 => ?_) (fun hc_28 => ?_)
          · refine x_iconst (v := nI 0) (pc := 55) F dX1_isBusy_55 (by decide) ?_
            refine x_istore_n (lv' := [(0, .ref h), (1, .int (nI pp)), (2, .int (nI 0)), (3, .int (nI i))]) (pc := 56) F dX1_isBusy_56 rfl (by decide) [1, 2, 0, 3] rfl ?_
            refine x_iinc (v := nI (i + 1)) (lv' := [(0, .ref h), (1, .int (nI pp)), (2, .int (nI 0)), (3, .int (nI (i + 1)))]) (pc := 57) F dX1_isBusy_57 3 rfl (nx_inc (b := 1) i (by decide)) (by decide) [1, 2, 3, 0] rfl ?_
            refine x_goto (tgt := 4) (pc := 60) F dX1_isBusy_60 (by decide) ?_
            refine x_lv [0, 1, 2, 3] rfl ?_
            exact ih_4 (i + 1) 0 (by omega) (any_f hz hc_13 (fun q => hc_28 ((busyF_iff _ _ _).mp q).1)) (by decide) (by omega)
          · refine x_aload_n (pc := 31) F dX1_isBusy_31 0 rfl rfl ?_
            refine gM_callerOf (pc := 32) F hK hin hm_callerOf dX1_isBusy_32 ?_
            refine x_iload_n (pc := 35) F dX1_isBusy_35 3 rfl rfl ?_
            refine lM_callerOf (v := G 6 i) (pc := 36) F hK dX1_isBusy_36 (by omega) rfl ?_
            refine x_iload_n (pc := 37) F dX1_isBusy_37 1 rfl rfl ?_
            refine x_icmpN_eq (tgt := 51) (pc := 38) F dX1_isBusy_38 (by decide) (by omega) (by omega) (fun hc_38 => ?_) (fun hc_38 => ?_)
            · refine x_iconst (v := nI 1) (pc := 51) F dX1_isBusy_51 (by decide) ?_
              refine x_goto (tgt := 56) (pc := 52) F dX1_isBusy_52 (by decide) ?_
              refine x_istore_n (lv' := [(0, .ref h), (1, .int (nI pp)), (2, .int (nI 1)), (3, .int (nI i))]) (pc := 56) F dX1_isBusy_56 rfl (by decide) [1, 2, 0, 3] rfl ?_
              refine x_iinc (v := nI (i + 1)) (lv' := [(0, .ref h), (1, .int (nI pp)), (2, .int (nI 1)), (3, .int (nI (i + 1)))]) (pc := 57) F dX1_isBusy_57 3 rfl (nx_inc (b := 1) i (by decide)) (by decide) [1, 2, 3, 0] rfl ?_
              refine x_goto (tgt := 4) (pc := 60) F dX1_isBusy_60 (by decide) ?_
              refine x_lv [0, 1, 2, 3] rfl ?_
              exact ih_4 (i + 1) 1 (by omega) (any_t2 ((busyF_iff _ _ _).mpr ⟨hc_28, Or.inl hc_38⟩)) (by decide) (by omega)
            · refine x_aload_n (pc := 41) F dX1_isBusy_41 0 rfl rfl ?_
              refine gM_calleeOf (pc := 42) F hK hin hm_calleeOf dX1_isBusy_42 ?_
              refine x_iload_n (pc := 45) F dX1_isBusy_45 3 rfl rfl ?_
              refine lM_calleeOf (v := G 7 i) (pc := 46) F hK dX1_isBusy_46 (by omega) rfl ?_
              refine x_iload_n (pc := 47) F dX1_isBusy_47 1 rfl rfl ?_
              refine x_icmpN_ne (tgt := 55) (pc := 48) F dX1_isBusy_48 (by decide) (by omega) (by omega) (fun hc_48 => ?_) (fun hc_48 => ?_)
              · refine x_iconst (v := nI 0) (pc := 55) F dX1_isBusy_55 (by decide) ?_
                refine x_istore_n (lv' := [(0, .ref h), (1, .int (nI pp)), (2, .int (nI 0)), (3, .int (nI i))]) (pc := 56) F dX1_isBusy_56 rfl (by decide) [1, 2, 0, 3] rfl ?_
                refine x_iinc (v := nI (i + 1)) (lv' := [(0, .ref h), (1, .int (nI pp)), (2, .int (nI 0)), (3, .int (nI (i + 1)))]) (pc := 57) F dX1_isBusy_57 3 rfl (nx_inc (b := 1) i (by decide)) (by decide) [1, 2, 3, 0] rfl ?_
                refine x_goto (tgt := 4) (pc := 60) F dX1_isBusy_60 (by decide) ?_
                refine x_lv [0, 1, 2, 3] rfl ?_
                exact ih_4 (i + 1) 0 (by omega) (any_f hz hc_13 (fun q => ((busyF_iff _ _ _).mp q).2.elim hc_38 hc_48)) (by decide) (by omega)
              · refine x_iconst (v := nI 1) (pc := 51) F dX1_isBusy_51 (by decide) ?_
                refine x_goto (tgt := 56) (pc := 52) F dX1_isBusy_52 (by decide) ?_
                refine x_istore_n (lv' := [(0, .ref h), (1, .int (nI pp)), (2, .int (nI 1)), (3, .int (nI i))]) (pc := 56) F dX1_isBusy_56 rfl (by decide) [1, 2, 0, 3] rfl ?_
                refine x_iinc (v := nI (i + 1)) (lv' := [(0, .ref h), (1, .int (nI pp)), (2, .int (nI 1)), (3, .int (nI (i + 1)))]) (pc := 57) F dX1_isBusy_57 3 rfl (nx_inc (b := 1) i (by decide)) (by decide) [1, 2, 3, 0] rfl ?_
                refine x_goto (tgt := 4) (pc := 60) F dX1_isBusy_60 (by decide) ?_
                refine x_lv [0, 1, 2, 3] rfl ?_
                exact ih_4 (i + 1) 1 (by omega) (any_t2 ((busyF_iff _ _ _).mpr ⟨hc_28, Or.inr hc_48⟩)) (by decide) (by omega)
  refine x_lv [0, 1, 2, 3] rfl ?_
  exact cut_4 ((G 4 0 - 0) + 1) 0 0 (Nat.zero_le _) rfl (by decide) (Nat.lt_succ_self _)
set_option maxHeartbeats 4000000 in
set_option maxRecDepth 100000 in
theorem c_X1_lay (l : Launch) (G : GS) (K : Nat → Nat) (hs : Int64) (a b w : Nat) (hw : w < 2) (hc : G 4 0 < 28) (hr1 : 1 ≤ G 3 0) : MCv wM tM l yX1_lay wsX1_lay ({ frames := 0, cells := 0, slots := 0, locals := 0 }) [.int (nI a), .int (nI b), .int (nI w)] (G, K, hs) (fun u => u = (putG G a b w, K, hs)) := by
  refine x_startv (cc := cX1_lay) (maxL := 4) (ret := none) (own := RX1) (by decide) rfl rfl (fun _ => Nat.le_of_ble_eq_true rfl) ?_
  intro p e s m args below meth c D h q cs F hK hr hlk Q0 hQ0
  refine x_lv (lv' := [(0, .ref h), (1, .int (nI a)), (2, .int (nI b)), (3, .int (nI w))]) [0, 1, 2, 3] rfl ?_
  have hin : ∀ w ∈ wsX10, w ∈ wsX1_lay := by decide +kernel
  have hm_roundOf : Cond.fieldLink RX1 13 "GossipScheduleModel" "roundOf" "[I" ∈ wsX1_lay := by decide +kernel
  have hm_calls : Cond.fieldLink RX1 46 "GossipScheduleModel" "calls" "I" ∈ wsX1_lay := by decide +kernel
  have hm_rounds : Cond.fieldLink RX1 43 "GossipScheduleModel" "rounds" "I" ∈ wsX1_lay := by decide +kernel
  have hm_callerOf : Cond.fieldLink RX1 17 "GossipScheduleModel" "callerOf" "[I" ∈ wsX1_lay := by decide +kernel
  have hm_calleeOf : Cond.fieldLink RX1 20 "GossipScheduleModel" "calleeOf" "[I" ∈ wsX1_lay := by decide +kernel
  have hm_isOneWay : Cond.fieldLink RX1 23 "GossipScheduleModel" "isOneWay" "[Z" ∈ wsX1_lay := by decide +kernel
  refine x_aload_n (pc := 0) F dX1_lay_0 0 rfl rfl ?_
  refine gM_roundOf (pc := 1) F hK hin hm_roundOf dX1_lay_1 ?_
  refine x_aload_n (pc := 4) F dX1_lay_4 0 rfl rfl ?_
  refine gM_calls (v := G 4 0) (pc := 5) F hK hin hm_calls rfl dX1_lay_5 ?_
  refine x_aload_n (pc := 8) F dX1_lay_8 0 rfl rfl ?_
  refine gM_rounds (v := G 3 0) (pc := 9) F hK hin hm_rounds rfl dX1_lay_9 ?_
  refine x_iconst (v := nI 1) (pc := 12) F dX1_lay_12 (by decide) ?_
  refine x_isub (z := nI (G 3 0 - 1)) (pc := 13) F dX1_lay_13 (pk_sub (by omega)) ?_
  refine sM_roundOf (pc := 14) F hK dX1_lay_14 (by omega) ?_
  refine x_aload_n (pc := 15) F dX1_lay_15 0 rfl rfl ?_
  refine gM_callerOf (pc := 16) F hK hin hm_callerOf dX1_lay_16 ?_
  refine x_aload_n (pc := 19) F dX1_lay_19 0 rfl rfl ?_
  refine gM_calls (v := G 4 0) (pc := 20) F hK hin hm_calls rfl dX1_lay_20 ?_
  refine x_iload_n (pc := 23) F dX1_lay_23 1 rfl rfl ?_
  refine sM_callerOf (pc := 24) F hK dX1_lay_24 (by omega) ?_
  refine x_aload_n (pc := 25) F dX1_lay_25 0 rfl rfl ?_
  refine gM_calleeOf (pc := 26) F hK hin hm_calleeOf dX1_lay_26 ?_
  refine x_aload_n (pc := 29) F dX1_lay_29 0 rfl rfl ?_
  refine gM_calls (v := G 4 0) (pc := 30) F hK hin hm_calls rfl dX1_lay_30 ?_
  refine x_iload_n (pc := 33) F dX1_lay_33 2 rfl rfl ?_
  refine sM_calleeOf (pc := 34) F hK dX1_lay_34 (by omega) ?_
  refine x_aload_n (pc := 35) F dX1_lay_35 0 rfl rfl ?_
  refine gM_isOneWay (pc := 36) F hK hin hm_isOneWay dX1_lay_36 ?_
  refine x_aload_n (pc := 39) F dX1_lay_39 0 rfl rfl ?_
  refine gM_calls (v := G 4 0) (pc := 40) F hK hin hm_calls rfl dX1_lay_40 ?_
  refine x_iload_n (pc := 43) F dX1_lay_43 3 rfl rfl ?_
  refine sM_isOneWay (pc := 44) F hK dX1_lay_44 (by omega) (by omega) ?_
  refine x_aload_n (pc := 45) F dX1_lay_45 0 rfl rfl ?_
  refine x_dup (pc := 46) F dX1_lay_46 rfl ?_
  refine gM_calls (v := G 4 0) (pc := 47) F hK hin hm_calls rfl dX1_lay_47 ?_
  refine x_iconst (v := nI 1) (pc := 50) F dX1_lay_50 (by decide) ?_
  refine x_iadd (z := nI (G 4 0 + 1)) (pc := 51) F dX1_lay_51 (nI_add (G 4 0) 1) ?_
  refine pM_calls (pc := 52) F hK hin hm_calls dX1_lay_52 ?_
  exact x_retv (w := wM) (ty := tM) (pc := 55) F hK hr hlk hQ0 dX1_lay_55 (rfl)
set_option maxHeartbeats 4000000 in
set_option maxRecDepth 100000 in
theorem c_X1_addCall (l : Launch) (G : GS) (K : Nat → Nat) (hs : Int64) (x y : Int32) (w : Nat) (hw : w < 2) (hG : ok G) : MCi wM tM l yX1_addCall wsX1_addCall ({ frames := 2, cells := 0, slots := 0, locals := 43 }) [.int (x), .int (y), .int (nI w)] (G, K, hs) (fun r u => u = (sg_addCall G x y w, K, hs) ∧ r = sp_addCall G x y w) := by
  have hG0 := hG
  obtain ⟨b1, b2, b3, b4, b5, b6, b7, b8, b9, b10, b11⟩ := hG0
  refine x_starti (cc := cX1_addCall) (maxL := 4) (ret := (some .int)) (own := RX1) (by decide) rfl rfl (fun _ => Nat.le_of_ble_eq_true rfl) ?_
  intro p e s m args below meth c D h q cs F hK hr hlk Q0 hQ0
  refine x_lv (lv' := [(0, .ref h), (1, .int (x)), (2, .int (y)), (3, .int (nI w))]) [0, 1, 2, 3] rfl ?_
  have hin : ∀ w ∈ wsX10, w ∈ wsX1_addCall := by decide +kernel
  have hm_rounds : Cond.fieldLink RX1 43 "GossipScheduleModel" "rounds" "I" ∈ wsX1_addCall := by decide +kernel
  have hm_calls : Cond.fieldLink RX1 46 "GossipScheduleModel" "calls" "I" ∈ wsX1_addCall := by decide +kernel
  refine x_aload_n (pc := 0) F dX1_addCall_0 0 rfl rfl ?_
  refine x_iload_n (pc := 1) F dX1_addCall_1 1 rfl rfl ?_
  refine x_calli (w := wM) (ty := tM) (pc := 2) F hK wM_in [.int (x)] [] (c_X1_isPerson l G K hs x ((x).toInt) rfl (by omega) (by omega)) (cwV 1 F.2.2.2.2 gX1_addCall_X1_isPerson rfl rfl rfl (by decide +kernel) ⟨Nat.le_of_ble_eq_true rfl, Nat.le_of_ble_eq_true rfl⟩) rfl rfl rfl rfl (Nat.le_of_ble_eq_true rfl) dX1_addCall_2 ?_
  rintro _ _ ⟨rfl, rfl⟩
  refine x_ifB_eq (tgt := 16) (pc := 5) F dX1_addCall_5 (by decide) (fun hc_5 => ?_) (fun hc_5 => ?_)
  · refine x_bipush (v := -6) (pc := 16) F dX1_addCall_16 (by decide) ?_
    exact x_reti (w := wM) (ty := tM) (pc := 18) F hK hr hlk hQ0 dX1_addCall_18 (⟨by rw [sg_addCall, if_neg (by unfold inR; omega)], by rw [sp_addCall, if_neg (by unfold inR; omega)]⟩)
  · refine x_aload_n (pc := 8) F dX1_addCall_8 0 rfl rfl ?_
    refine x_iload_n (pc := 9) F dX1_addCall_9 2 rfl rfl ?_
    refine x_calli (w := wM) (ty := tM) (pc := 10) F hK wM_in [.int (y)] [] (c_X1_isPerson l G K hs y ((y).toInt) rfl (by omega) (by omega)) (cwV 1 F.2.2.2.2 gX1_addCall_X1_isPerson rfl rfl rfl (by decide +kernel) ⟨Nat.le_of_ble_eq_true rfl, Nat.le_of_ble_eq_true rfl⟩) rfl rfl rfl rfl (Nat.le_of_ble_eq_true rfl) dX1_addCall_10 ?_
    rintro _ _ ⟨rfl, rfl⟩
    refine x_ifB_ne (tgt := 19) (pc := 13) F dX1_addCall_13 (by decide) (fun hc_13 => ?_) (fun hc_13 => ?_)
    · obtain ⟨ja, h_ja, rfl⟩ := nI_ofR (x := x) (n := G 0 0) (by omega) (by omega)
      have e_ja : (nI ja).toInt = (ja : Int) := nI_toInt (by omega)
      obtain ⟨jb, h_jb, rfl⟩ := nI_ofR (x := y) (n := G 0 0) (by omega) (by omega)
      have e_jb : (nI jb).toInt = (jb : Int) := nI_toInt (by omega)
      refine x_aload_n (pc := 19) F dX1_addCall_19 0 rfl rfl ?_
      refine x_iload_n (pc := 20) F dX1_addCall_20 1 rfl rfl ?_
      refine x_iload_n (pc := 21) F dX1_addCall_21 2 rfl rfl ?_
      refine x_calli (w := wM) (ty := tM) (pc := 22) F hK wM_in [.int (nI ja), .int (nI jb)] [] (c_X1_isEdge l G K hs ja jb (by have hq_0 : G 0 0 = G 0 0 := rfl; omega) (by have hq_0 : G 0 0 = G 0 0 := rfl; omega) (by have hq_0 : G 0 0 = G 0 0 := rfl; omega) (by have hq_2 : G 2 0 = G 2 0 := rfl; omega) (by have hq_0 : G 0 0 = G 0 0 := rfl; omega)) (cwV 2 F.2.2.2.2 gX1_addCall_X1_isEdge rfl rfl rfl (by decide +kernel) ⟨Nat.le_of_ble_eq_true rfl, Nat.le_of_ble_eq_true rfl⟩) rfl rfl rfl rfl (Nat.le_of_ble_eq_true rfl) dX1_addCall_22 ?_
      rintro _ _ ⟨rfl, rfl⟩
      refine x_ifB_ne (tgt := 31) (pc := 25) F dX1_addCall_25 (by decide) (fun hc_25 => ?_) (fun hc_25 => ?_)
      · refine x_aload_n (pc := 31) F dX1_addCall_31 0 rfl rfl ?_
        refine gM_rounds (v := G 3 0) (pc := 32) F hK hin hm_rounds rfl dX1_addCall_32 ?_
        refine x_ifN_ne (tgt := 41) (pc := 35) F dX1_addCall_35 (by decide) (by omega) (fun hc_35 => ?_) (fun hc_35 => ?_)
        · refine x_aload_n (pc := 41) F dX1_addCall_41 0 rfl rfl ?_
          refine x_iload_n (pc := 42) F dX1_addCall_42 1 rfl rfl ?_
          refine x_calli (w := wM) (ty := tM) (pc := 43) F hK wM_in [.int (nI ja)] [] (c_X1_isBusy l G K hs ja (by omega) hG (by omega)) (cwV 1 F.2.2.2.2 gX1_addCall_X1_isBusy rfl rfl rfl (by decide +kernel) ⟨Nat.le_of_ble_eq_true rfl, Nat.le_of_ble_eq_true rfl⟩) rfl rfl rfl rfl (Nat.le_of_ble_eq_true rfl) dX1_addCall_43 ?_
          rintro _ _ ⟨rfl, rfl⟩
          refine x_ifB_ne (tgt := 57) (pc := 46) F dX1_addCall_46 (by decide) (fun hc_46 => ?_) (fun hc_46 => ?_)
          · refine x_bipush (v := -9) (pc := 57) F dX1_addCall_57 (by decide) ?_
            exact x_reti (w := wM) (ty := tM) (pc := 59) F hK hr hlk hQ0 dX1_addCall_59 (⟨by rw [sg_addCall, if_pos (by unfold inR; omega), toNat_nI (by omega), toNat_nI (by omega), if_pos hc_25, if_neg hc_35, if_pos (Or.inl hc_46)], by rw [sp_addCall, if_pos (by unfold inR; omega), toNat_nI (by omega), toNat_nI (by omega), if_pos hc_25, if_neg hc_35, if_pos (Or.inl hc_46)]⟩)
          · refine x_aload_n (pc := 49) F dX1_addCall_49 0 rfl rfl ?_
            refine x_iload_n (pc := 50) F dX1_addCall_50 2 rfl rfl ?_
            refine x_calli (w := wM) (ty := tM) (pc := 51) F hK wM_in [.int (nI jb)] [] (c_X1_isBusy l G K hs jb (by omega) hG (by omega)) (cwV 1 F.2.2.2.2 gX1_addCall_X1_isBusy rfl rfl rfl (by decide +kernel) ⟨Nat.le_of_ble_eq_true rfl, Nat.le_of_ble_eq_true rfl⟩) rfl rfl rfl rfl (Nat.le_of_ble_eq_true rfl) dX1_addCall_51 ?_
            rintro _ _ ⟨rfl, rfl⟩
            refine x_ifB_eq (tgt := 60) (pc := 54) F dX1_addCall_54 (by decide) (fun hc_54 => ?_) (fun hc_54 => ?_)
            · refine x_aload_n (pc := 60) F dX1_addCall_60 0 rfl rfl ?_
              refine x_iload_n (pc := 61) F dX1_addCall_61 3 rfl rfl ?_
              refine x_calli (w := wM) (ty := tM) (pc := 62) F hK wM_in [.int (nI w)] [] (c_X1_accepts l G K hs w (by omega) (by omega)) (cwV 1 F.2.2.2.2 gX1_addCall_X1_accepts rfl rfl rfl (by decide +kernel) ⟨Nat.le_of_ble_eq_true rfl, Nat.le_of_ble_eq_true rfl⟩) rfl rfl rfl rfl (Nat.le_of_ble_eq_true rfl) dX1_addCall_62 ?_
              rintro _ _ ⟨rfl, rfl⟩
              refine x_ifB_ne (tgt := 71) (pc := 65) F dX1_addCall_65 (by decide) (fun hc_65 => ?_) (fun hc_65 => ?_)
              · refine x_aload_n (pc := 71) F dX1_addCall_71 0 rfl rfl ?_
                refine gM_calls (v := G 4 0) (pc := 72) F hK hin hm_calls rfl dX1_addCall_72 ?_
                refine x_bipush (v := nI 28) (pc := 75) F dX1_addCall_75 (by decide) ?_
                refine x_icmpN_ne (tgt := 83) (pc := 77) F dX1_addCall_77 (by decide) (by omega) (by decide) (fun hc_77 => ?_) (fun hc_77 => ?_)
                · refine x_aload_n (pc := 83) F dX1_addCall_83 0 rfl rfl ?_
                  refine x_iload_n (pc := 84) F dX1_addCall_84 1 rfl rfl ?_
                  refine x_iload_n (pc := 85) F dX1_addCall_85 2 rfl rfl ?_
                  refine x_iload_n (pc := 86) F dX1_addCall_86 3 rfl rfl ?_
                  refine x_callv (w := wM) (ty := tM) (pc := 87) F hK wM_in [.int (nI ja), .int (nI jb), .int (nI w)] [] (c_X1_lay l G K hs ja jb w (by omega) (by have hq_4 : G 4 0 = G 4 0 := rfl; omega) (by have hq_3 : G 3 0 = G 3 0 := rfl; omega)) (cwV 3 F.2.2.2.2 gX1_addCall_X1_lay rfl rfl rfl (by decide +kernel) ⟨Nat.le_of_ble_eq_true rfl, Nat.le_of_ble_eq_true rfl⟩) rfl rfl rfl rfl (Nat.le_of_ble_eq_true rfl) dX1_addCall_87 ?_
                  rintro _ rfl
                  refine x_aload_n (pc := 90) F dX1_addCall_90 0 rfl rfl ?_
                  refine gM_calls (v := G 4 0 + 1) (pc := 91) F hK hin hm_calls rfl dX1_addCall_91 ?_
                  refine x_iconst (v := nI 1) (pc := 94) F dX1_addCall_94 (by decide) ?_
                  refine x_isub (z := nI ((G 4 0 + 1) - 1)) (pc := 95) F dX1_addCall_95 (pk_sub (by omega)) ?_
                  exact x_reti (w := wM) (ty := tM) (pc := 96) F hK hr hlk hQ0 dX1_addCall_96 (⟨by rw [sg_addCall, if_pos (by unfold inR; omega), toNat_nI (by omega), toNat_nI (by omega), if_pos hc_25, if_neg hc_35, if_neg (not_or.mpr ⟨hc_46, hc_54⟩), if_pos hc_65, if_pos (by omega)], by rw [sp_addCall, if_pos (by unfold inR; omega), toNat_nI (by omega), toNat_nI (by omega), if_pos hc_25, if_neg hc_35, if_neg (not_or.mpr ⟨hc_46, hc_54⟩), if_pos hc_65, if_pos (by omega), Nat.add_sub_cancel]⟩)
                · refine x_bipush (v := -13) (pc := 80) F dX1_addCall_80 (by decide) ?_
                  exact x_reti (w := wM) (ty := tM) (pc := 82) F hK hr hlk hQ0 dX1_addCall_82 (⟨by rw [sg_addCall, if_pos (by unfold inR; omega), toNat_nI (by omega), toNat_nI (by omega), if_pos hc_25, if_neg hc_35, if_neg (not_or.mpr ⟨hc_46, hc_54⟩), if_pos hc_65, if_neg (by omega)], by rw [sp_addCall, if_pos (by unfold inR; omega), toNat_nI (by omega), toNat_nI (by omega), if_pos hc_25, if_neg hc_35, if_neg (not_or.mpr ⟨hc_46, hc_54⟩), if_pos hc_65, if_neg (by omega)]⟩)
              · refine x_bipush (v := -11) (pc := 68) F dX1_addCall_68 (by decide) ?_
                exact x_reti (w := wM) (ty := tM) (pc := 70) F hK hr hlk hQ0 dX1_addCall_70 (⟨by rw [sg_addCall, if_pos (by unfold inR; omega), toNat_nI (by omega), toNat_nI (by omega), if_pos hc_25, if_neg hc_35, if_neg (not_or.mpr ⟨hc_46, hc_54⟩), if_neg hc_65], by rw [sp_addCall, if_pos (by unfold inR; omega), toNat_nI (by omega), toNat_nI (by omega), if_pos hc_25, if_neg hc_35, if_neg (not_or.mpr ⟨hc_46, hc_54⟩), if_neg hc_65]⟩)
            · refine x_bipush (v := -9) (pc := 57) F dX1_addCall_57 (by decide) ?_
              exact x_reti (w := wM) (ty := tM) (pc := 59) F hK hr hlk hQ0 dX1_addCall_59 (⟨by rw [sg_addCall, if_pos (by unfold inR; omega), toNat_nI (by omega), toNat_nI (by omega), if_pos hc_25, if_neg hc_35, if_pos (Or.inr hc_54)], by rw [sp_addCall, if_pos (by unfold inR; omega), toNat_nI (by omega), toNat_nI (by omega), if_pos hc_25, if_neg hc_35, if_pos (Or.inr hc_54)]⟩)
        · refine x_bipush (v := -8) (pc := 38) F dX1_addCall_38 (by decide) ?_
          exact x_reti (w := wM) (ty := tM) (pc := 40) F hK hr hlk hQ0 dX1_addCall_40 (⟨by rw [sg_addCall, if_pos (by unfold inR; omega), toNat_nI (by omega), toNat_nI (by omega), if_pos hc_25, if_pos hc_35], by rw [sp_addCall, if_pos (by unfold inR; omega), toNat_nI (by omega), toNat_nI (by omega), if_pos hc_25, if_pos hc_35]⟩)
      · refine x_bipush (v := -10) (pc := 28) F dX1_addCall_28 (by decide) ?_
        exact x_reti (w := wM) (ty := tM) (pc := 30) F hK hr hlk hQ0 dX1_addCall_30 (⟨by rw [sg_addCall, if_pos (by unfold inR; omega), toNat_nI (by omega), toNat_nI (by omega), if_neg hc_25], by rw [sp_addCall, if_pos (by unfold inR; omega), toNat_nI (by omega), toNat_nI (by omega), if_neg hc_25]⟩)
    · refine x_bipush (v := -6) (pc := 16) F dX1_addCall_16 (by decide) ?_
      exact x_reti (w := wM) (ty := tM) (pc := 18) F hK hr hlk hQ0 dX1_addCall_18 (⟨by rw [sg_addCall, if_neg (by unfold inR; omega)], by rw [sp_addCall, if_neg (by unfold inR; omega)]⟩)
set_option maxHeartbeats 4000000 in
set_option maxRecDepth 100000 in
theorem c_X1_removeLastRound (l : Launch) (G : GS) (K : Nat → Nat) (hs : Int64) (hG : ok G) : MCi wM tM l yX1_removeLastRound wsX1_removeLastRound ({ frames := 0, cells := 0, slots := 0, locals := 0 }) [] (G, K, hs) (fun r u => u = (sg_remove G, K, hs) ∧ r = sp_remove G) := by
  have hG0 := hG
  obtain ⟨b1, b2, b3, b4, b5, b6, b7, b8, b9, b10, b11⟩ := hG0
  refine x_starti (cc := cX1_removeLastRound) (maxL := 1) (ret := (some .int)) (own := RX1) (by decide) rfl rfl (fun _ => Nat.le_of_ble_eq_true rfl) ?_
  intro p e s m args below meth c D h q cs F hK hr hlk Q0 hQ0
  refine x_lv (lv' := [(0, .ref h)]) [0] rfl ?_
  have hin : ∀ w ∈ wsX10, w ∈ wsX1_removeLastRound := by decide +kernel
  have hm_rounds : Cond.fieldLink RX1 43 "GossipScheduleModel" "rounds" "I" ∈ wsX1_removeLastRound := by decide +kernel
  have hm_calls : Cond.fieldLink RX1 46 "GossipScheduleModel" "calls" "I" ∈ wsX1_removeLastRound := by decide +kernel
  have hm_roundOf : Cond.fieldLink RX1 13 "GossipScheduleModel" "roundOf" "[I" ∈ wsX1_removeLastRound := by decide +kernel
  refine x_aload_n (pc := 0) F dX1_removeLastRound_0 0 rfl rfl ?_
  refine gM_rounds (v := G 3 0) (pc := 1) F hK hin hm_rounds rfl dX1_removeLastRound_1 ?_
  refine x_ifN_ne (tgt := 10) (pc := 4) F dX1_removeLastRound_4 (by decide) (by omega) (fun hc_4 => ?_) (fun hc_4 => ?_)
  · refine x_aload_n (pc := 10) F dX1_removeLastRound_10 0 rfl rfl ?_
    refine x_dup (pc := 11) F dX1_removeLastRound_11 rfl ?_
    refine gM_rounds (v := G 3 0) (pc := 12) F hK hin hm_rounds rfl dX1_removeLastRound_12 ?_
    refine x_iconst (v := nI 1) (pc := 15) F dX1_removeLastRound_15 (by decide) ?_
    refine x_isub (z := nI (G 3 0 - 1)) (pc := 16) F dX1_removeLastRound_16 (pk_sub (by omega)) ?_
    refine pM_rounds (pc := 17) F hK hin hm_rounds dX1_removeLastRound_17 ?_
    refine x_I (congrArg (fun g => IC wM D h q cs s (g, K, hs)) (show up G 3 0 (G 3 0 - 1) = up (up G 3 0 (G 3 0 - 1)) 4 0 (G 4 0) from (up_id (up G 3 0 (G 3 0 - 1)) 4 0).symm)) ?_
    have cut_20 : ∀ (fu : Nat) (cz : Nat), (cz ≤ G 4 0) → (cutN G (G 3 0 - 1) cz = cutN G (G 3 0 - 1) (G 4 0)) → (cz) < fu → V p l e ({ frames := 0, cells := 0, slots := 0, locals := 0 }) s m args below meth c 1 0 0 Q0 (IC wM D h q cs s (up (up G 3 0 (G 3 0 - 1)) 4 0 cz, K, hs)) 20 [(0, .ref h)] [] := by
      intro fu
      induction fu with
      | zero => intro cz hc hcz hfu; exact absurd hfu (Nat.not_lt_zero _)
      | succ fu ih_20 =>
        intro cz hc hcz hfu
        refine x_aload_n (pc := 20) F dX1_removeLastRound_20 0 rfl rfl ?_
        refine gM_calls (v := cz) (pc := 21) F hK hin hm_calls rfl dX1_removeLastRound_21 ?_
        refine x_ifN_le (tgt := 58) (pc := 24) F dX1_removeLastRound_24 (by decide) (by omega) (fun hc_24 => ?_) (fun hc_24 => ?_)
        · refine x_aload_n (pc := 58) F dX1_removeLastRound_58 0 rfl rfl ?_
          refine gM_rounds (v := G 3 0 - 1) (pc := 59) F hK hin hm_rounds rfl dX1_removeLastRound_59 ?_
          exact x_reti (w := wM) (ty := tM) (pc := 62) F hK hr hlk hQ0 dX1_removeLastRound_62 (⟨by rw [sg_remove, if_neg (by omega), (show cz = cutN G (G 3 0 - 1) (G 4 0) from by rw [← hcz, show cz = 0 by omega]; rfl)], by rw [sp_remove, if_neg (by omega)]⟩)
        · have hj := b8 (cz - 1) (by omega)
          refine x_aload_n (pc := 27) F dX1_removeLastRound_27 0 rfl rfl ?_
          refine gM_roundOf (pc := 28) F hK hin hm_roundOf dX1_removeLastRound_28 ?_
          refine x_aload_n (pc := 31) F dX1_removeLastRound_31 0 rfl rfl ?_
          refine gM_calls (v := cz) (pc := 32) F hK hin hm_calls rfl dX1_removeLastRound_32 ?_
          refine x_iconst (v := nI 1) (pc := 35) F dX1_removeLastRound_35 (by decide) ?_
          refine x_isub (z := nI (cz - 1)) (pc := 36) F dX1_removeLastRound_36 (pk_sub (by omega)) ?_
          refine lM_roundOf (v := G 5 (cz - 1)) (pc := 37) F hK dX1_removeLastRound_37 (by omega) rfl ?_
          refine x_aload_n (pc := 38) F dX1_removeLastRound_38 0 rfl rfl ?_
          refine gM_rounds (v := G 3 0 - 1) (pc := 39) F hK hin hm_rounds rfl dX1_removeLastRound_39 ?_
          refine x_icmpN_ne (tgt := 58) (pc := 42) F dX1_removeLastRound_42 (by decide) (by omega) (by omega) (fun hc_42 => ?_) (fun hc_42 => ?_)
          · refine x_aload_n (pc := 58) F dX1_removeLastRound_58 0 rfl rfl ?_
            refine gM_rounds (v := G 3 0 - 1) (pc := 59) F hK hin hm_rounds rfl dX1_removeLastRound_59 ?_
            exact x_reti (w := wM) (ty := tM) (pc := 62) F hK hr hlk hQ0 dX1_removeLastRound_62 (⟨by rw [sg_remove, if_neg (by omega), (show cz = cutN G (G 3 0 - 1) (G 4 0) from by rw [← hcz, cutN_f (by omega) (by omega)])], by rw [sp_remove, if_neg (by omega)]⟩)
          · refine x_aload_n (pc := 45) F dX1_removeLastRound_45 0 rfl rfl ?_
            refine x_dup (pc := 46) F dX1_removeLastRound_46 rfl ?_
            refine gM_calls (v := cz) (pc := 47) F hK hin hm_calls rfl dX1_removeLastRound_47 ?_
            refine x_iconst (v := nI 1) (pc := 50) F dX1_removeLastRound_50 (by decide) ?_
            refine x_isub (z := nI (cz - 1)) (pc := 51) F dX1_removeLastRound_51 (pk_sub (by omega)) ?_
            refine pM_calls (pc := 52) F hK hin hm_calls dX1_removeLastRound_52 ?_
            refine x_goto (tgt := 20) (pc := 55) F dX1_removeLastRound_55 (by decide) ?_
            refine x_I (congrArg (fun g => IC wM D h q cs s (g, K, hs)) (show up (up (up G 3 0 (G 3 0 - 1)) 4 0 cz) 4 0 (cz - 1) = up (up G 3 0 (G 3 0 - 1)) 4 0 (cz - 1) from (up_up _ 4 0 _ _))) ?_
            refine x_lv [0] rfl ?_
            exact ih_20 (cz - 1) (by omega) ((cutN_t (by omega) (by omega)).symm.trans hcz) (by omega)
    refine x_lv [0] rfl ?_
    exact cut_20 (((G 4 0)) + 1) (G 4 0) (Nat.le_refl _) rfl (Nat.lt_succ_self _)
  · refine x_bipush (v := -8) (pc := 7) F dX1_removeLastRound_7 (by decide) ?_
    exact x_reti (w := wM) (ty := tM) (pc := 9) F hK hr hlk hQ0 dX1_removeLastRound_9 (⟨by rw [sg_remove, if_pos (by omega)], by rw [sp_remove, if_pos (by omega)]⟩)
set_option maxHeartbeats 4000000 in
set_option maxRecDepth 100000 in
theorem c_X1_append (l : Launch) (G : GS) (K : Nat → Nat) (hs : Int64) (x : Int32) (hG : ok G) : MCi wM tM l yX1_append wsX1_append ({ frames := 1, cells := 0, slots := 0, locals := 22 }) [.int (x)] (G, K, hs) (fun r u => u = (sg_append G x, K, hs) ∧ r = sp_append G x) := by
  have hG0 := hG
  obtain ⟨b1, b2, b3, b4, b5, b6, b7, b8, b9, b10, b11⟩ := hG0
  refine x_starti (cc := cX1_append) (maxL := 2) (ret := (some .int)) (own := RX1) (by decide) rfl rfl (fun _ => Nat.le_of_ble_eq_true rfl) ?_
  intro p e s m args below meth c D h q cs F hK hr hlk Q0 hQ0
  refine x_lv (lv' := [(0, .ref h), (1, .int (x))]) [0, 1] rfl ?_
  have hin : ∀ w ∈ wsX10, w ∈ wsX1_append := by decide +kernel
  have hm_length : Cond.fieldLink RX1 72 "GossipScheduleModel" "length" "I" ∈ wsX1_append := by decide +kernel
  have hm_buffer : Cond.fieldLink RX1 27 "GossipScheduleModel" "buffer" "[I" ∈ wsX1_append := by decide +kernel
  refine x_iload_n (pc := 0) F dX1_append_0 1 rfl rfl ?_
  refine x_bipush (v := nI 32) (pc := 1) F dX1_append_1 (by decide) ?_
  refine x_bipush (v := nI 126) (pc := 3) F dX1_append_3 (by decide) ?_
  refine x_scalli (pc := 5) F [.int (x), .int (nI 32), .int (nI 126)] [] (c_X1_within l x (nI 32) (nI 126) ((x).toInt) (((32 : Nat) : Int)) (((126 : Nat) : Int)) rfl (nI_toInt (by omega)) (nI_toInt (by omega))) (va_cwS 3 F.2.2.2.2 gX1_append_X1_within rfl rfl rfl (by decide +kernel) ⟨Nat.le_of_ble_eq_true rfl, Nat.le_of_ble_eq_true rfl⟩) rfl rfl (Nat.le_of_ble_eq_true rfl) dX1_append_5 ?_
  rintro _ rfl
  refine x_ifB_ne (tgt := 14) (pc := 8) F dX1_append_8 (by decide) (fun hc_8 => ?_) (fun hc_8 => ?_)
  · obtain ⟨ja, h_ja, rfl⟩ := nI_ofR (x := x) (n := 127) (by omega) (by omega)
    have e_ja : (nI ja).toInt = (ja : Int) := nI_toInt (by omega)
    refine x_aload_n (pc := 14) F dX1_append_14 0 rfl rfl ?_
    refine gM_length (v := G 10 0) (pc := 15) F hK hin hm_length rfl dX1_append_15 ?_
    refine x_bipush (v := nI 59) (pc := 18) F dX1_append_18 (by decide) ?_
    refine x_icmpN_ne (tgt := 26) (pc := 20) F dX1_append_20 (by decide) (by omega) (by decide) (fun hc_20 => ?_) (fun hc_20 => ?_)
    · refine x_aload_n (pc := 26) F dX1_append_26 0 rfl rfl ?_
      refine gM_buffer (pc := 27) F hK hin hm_buffer dX1_append_27 ?_
      refine x_aload_n (pc := 30) F dX1_append_30 0 rfl rfl ?_
      refine gM_length (v := G 10 0) (pc := 31) F hK hin hm_length rfl dX1_append_31 ?_
      refine x_iload_n (pc := 34) F dX1_append_34 1 rfl rfl ?_
      refine sM_buffer (pc := 35) F hK dX1_append_35 (by omega) ?_
      refine x_aload_n (pc := 36) F dX1_append_36 0 rfl rfl ?_
      refine x_dup (pc := 37) F dX1_append_37 rfl ?_
      refine gM_length (v := G 10 0) (pc := 38) F hK hin hm_length rfl dX1_append_38 ?_
      refine x_iconst (v := nI 1) (pc := 41) F dX1_append_41 (by decide) ?_
      refine x_iadd (z := nI (G 10 0 + 1)) (pc := 42) F dX1_append_42 (nI_add (G 10 0) 1) ?_
      refine pM_length (pc := 43) F hK hin hm_length dX1_append_43 ?_
      refine x_aload_n (pc := 46) F dX1_append_46 0 rfl rfl ?_
      refine gM_length (v := G 10 0 + 1) (pc := 47) F hK hin hm_length rfl dX1_append_47 ?_
      exact x_reti (w := wM) (ty := tM) (pc := 50) F hK hr hlk hQ0 dX1_append_50 (⟨by rw [sg_append, if_pos (by omega), if_pos (by omega), toNat_nI (by omega)], by rw [sp_append, if_pos (by omega), if_pos (by omega)]⟩)
    · refine x_bipush (v := -3) (pc := 23) F dX1_append_23 (by decide) ?_
      exact x_reti (w := wM) (ty := tM) (pc := 25) F hK hr hlk hQ0 dX1_append_25 (⟨by rw [sg_append, if_pos (by omega), if_neg (by omega)], by rw [sp_append, if_pos (by omega), if_neg (by omega)]⟩)
  · refine x_bipush (v := -2) (pc := 11) F dX1_append_11 (by decide) ?_
    exact x_reti (w := wM) (ty := tM) (pc := 13) F hK hr hlk hQ0 dX1_append_13 (⟨by rw [sg_append, if_neg (by omega)], by rw [sp_append, if_neg (by omega)]⟩)
set_option maxHeartbeats 4000000 in
set_option maxRecDepth 100000 in
theorem c_X1_clearInput (l : Launch) (G : GS) (K : Nat → Nat) (hs : Int64) : MCi wM tM l yX1_clearInput wsX1_clearInput ({ frames := 0, cells := 0, slots := 0, locals := 0 }) [] (G, K, hs) (fun r u => u = (up G 10 0 0, K, hs) ∧ r = nI (G 10 0)) := by
  refine x_starti (cc := cX1_clearInput) (maxL := 2) (ret := (some .int)) (own := RX1) (by decide) rfl rfl (fun _ => Nat.le_of_ble_eq_true rfl) ?_
  intro p e s m args below meth c D h q cs F hK hr hlk Q0 hQ0
  refine x_lv (lv' := [(0, .ref h)]) [0] rfl ?_
  have hin : ∀ w ∈ wsX10, w ∈ wsX1_clearInput := by decide +kernel
  have hm_length : Cond.fieldLink RX1 72 "GossipScheduleModel" "length" "I" ∈ wsX1_clearInput := by decide +kernel
  refine x_aload_n (pc := 0) F dX1_clearInput_0 0 rfl rfl ?_
  refine gM_length (v := G 10 0) (pc := 1) F hK hin hm_length rfl dX1_clearInput_1 ?_
  refine x_istore_n (lv' := [(0, .ref h), (1, .int (nI (G 10 0)))]) (pc := 4) F dX1_clearInput_4 rfl (by decide) [1, 0] rfl ?_
  refine x_aload_n (pc := 5) F dX1_clearInput_5 0 rfl rfl ?_
  refine x_iconst (v := nI 0) (pc := 6) F dX1_clearInput_6 (by decide) ?_
  refine pM_length (pc := 7) F hK hin hm_length dX1_clearInput_7 ?_
  refine x_iload_n (pc := 10) F dX1_clearInput_10 1 rfl rfl ?_
  exact x_reti (w := wM) (ty := tM) (pc := 11) F hK hr hlk hQ0 dX1_clearInput_11 (⟨rfl, rfl⟩)
set_option maxHeartbeats 4000000 in
set_option maxRecDepth 100000 in
theorem c_X1_isRight (l : Launch) (G : GS) (K : Nat → Nat) (hs : Int64) (i : Nat) (hi : i < G 10 0) (hG : ok G) : MCi wM tM l yX1_isRight wsX1_isRight ({ frames := 1, cells := 0, slots := 0, locals := 22 }) [.int (nI i)] (G, K, hs) (fun r u => u = (G, K, hs) ∧ r = nI (bN (fit G i))) := by
  have hG0 := hG
  obtain ⟨b1, b2, b3, b4, b5, b6, b7, b8, b9, b10, b11⟩ := hG0
  have hv0 := b10 i hi
  have hv2 := b10 (i - 2) (by omega)
  refine x_starti (cc := cX1_isRight) (maxL := 4) (ret := (some .boolean)) (own := RX1) (by decide) rfl rfl (fun _ => Nat.le_of_ble_eq_true rfl) ?_
  intro p e s m args below meth c D h q cs F hK hr hlk Q0 hQ0
  refine x_lv (lv' := [(0, .ref h), (1, .int (nI i))]) [0, 1] rfl ?_
  have hin : ∀ w ∈ wsX10, w ∈ wsX1_isRight := by decide +kernel
  have hm_buffer : Cond.fieldLink RX1 27 "GossipScheduleModel" "buffer" "[I" ∈ wsX1_isRight := by decide +kernel
  have hm_persons : Cond.fieldLink RX1 7 "GossipScheduleModel" "persons" "I" ∈ wsX1_isRight := by decide +kernel
  refine x_aload_n (pc := 0) F dX1_isRight_0 0 rfl rfl ?_
  refine gM_buffer (pc := 1) F hK hin hm_buffer dX1_isRight_1 ?_
  refine x_iload_n (pc := 4) F dX1_isRight_4 1 rfl rfl ?_
  refine lM_buffer (v := G 9 i) (pc := 5) F hK dX1_isRight_5 (by omega) rfl ?_
  refine x_istore_n (lv' := [(0, .ref h), (1, .int (nI i)), (2, .int (nI (G 9 i)))]) (pc := 6) F dX1_isRight_6 rfl (by decide) [1, 2, 0] rfl ?_
  refine x_iload_n (pc := 7) F dX1_isRight_7 2 rfl rfl ?_
  refine x_bipush (v := nI 48) (pc := 8) F dX1_isRight_8 (by decide) ?_
  refine x_bipush (v := nI 48) (pc := 10) F dX1_isRight_10 (by decide) ?_
  refine x_aload_n (pc := 12) F dX1_isRight_12 0 rfl rfl ?_
  refine gM_persons (v := G 0 0) (pc := 13) F hK hin hm_persons rfl dX1_isRight_13 ?_
  refine x_iadd (z := nI (48 + G 0 0)) (pc := 16) F dX1_isRight_16 (nI_add 48 (G 0 0)) ?_
  refine x_iconst (v := nI 1) (pc := 17) F dX1_isRight_17 (by decide) ?_
  refine x_isub (z := nI ((48 + G 0 0) - 1)) (pc := 18) F dX1_isRight_18 (pk_sub (by omega)) ?_
  refine x_scalli (pc := 19) F [.int (nI (G 9 i)), .int (nI 48), .int (nI ((48 + G 0 0) - 1))] [] (c_X1_within l (nI (G 9 i)) (nI 48) (nI ((48 + G 0 0) - 1)) (((G 9 i : Nat) : Int)) (((48 : Nat) : Int)) ((((48 + G 0 0) - 1 : Nat) : Int)) (nI_toInt (by omega)) (nI_toInt (by omega)) (nI_toInt (by omega))) (va_cwS 3 F.2.2.2.2 gX1_isRight_X1_within rfl rfl rfl (by decide +kernel) ⟨Nat.le_of_ble_eq_true rfl, Nat.le_of_ble_eq_true rfl⟩) rfl rfl (Nat.le_of_ble_eq_true rfl) dX1_isRight_19 ?_
  rintro _ rfl
  refine x_istore_n (lv' := [(0, .ref h), (1, .int (nI i)), (2, .int (nI (G 9 i))), (3, .int (nI (bN ((((48 : Nat) : Int)) ≤ (((G 9 i : Nat) : Int)) ∧ (((G 9 i : Nat) : Int)) ≤ ((((48 + G 0 0) - 1 : Nat) : Int))))))]) (pc := 22) F dX1_isRight_22 rfl (by decide) [1, 2, 3, 0] rfl ?_
  refine x_iload_n (pc := 23) F dX1_isRight_23 1 rfl rfl ?_
  refine x_iconst (v := nI 4) (pc := 24) F dX1_isRight_24 (by decide) ?_
  refine x_irem (z := nI (i % 4)) (pc := 25) F dX1_isRight_25 (by decide) (pk_rem (by omega) (by decide) (by decide)) ?_
  rcases (show (i % 4) = 0 ∨ (i % 4) = 1 ∨ (i % 4) = 2 ∨ 2 < (i % 4) by omega) with hsw | hsw | hsw | hsw
  · refine x_tableN (k := 0) (tgt := 52) (pc := 26) F dX1_isRight_26 hsw (by decide) (by decide) (by decide) rfl (by decide) ?_
    refine x_iload_n (pc := 52) F dX1_isRight_52 3 rfl rfl ?_
    exact x_retz (w := wM) (ty := tM) (pc := 53) F hK hr hlk hQ0 (nar_z _ (bN_lt _)) dX1_isRight_53 (⟨rfl, congrArg nI (bN_c (by omega))⟩)
  · refine x_tableN (k := 1) (tgt := 54) (pc := 26) F dX1_isRight_26 hsw (by decide) (by decide) (by decide) rfl (by decide) ?_
    refine x_iload_n (pc := 54) F dX1_isRight_54 2 rfl rfl ?_
    refine x_bipush (v := nI 45) (pc := 55) F dX1_isRight_55 (by decide) ?_
    refine x_icmpN_eq (tgt := 66) (pc := 57) F dX1_isRight_57 (by decide) (by omega) (by decide) (fun hc_57 => ?_) (fun hc_57 => ?_)
    · refine x_iconst (v := nI 1) (pc := 66) F dX1_isRight_66 (by decide) ?_
      refine x_goto (tgt := 71) (pc := 67) F dX1_isRight_67 (by decide) ?_
      exact x_retz (w := wM) (ty := tM) (pc := 71) F hK hr hlk hQ0 (nar_z _ (by omega)) dX1_isRight_71 (⟨rfl, congrArg nI (bN_t (by omega)).symm⟩)
    · refine x_iload_n (pc := 60) F dX1_isRight_60 2 rfl rfl ?_
      refine x_bipush (v := nI 62) (pc := 61) F dX1_isRight_61 (by decide) ?_
      refine x_icmpN_ne (tgt := 70) (pc := 63) F dX1_isRight_63 (by decide) (by omega) (by decide) (fun hc_63 => ?_) (fun hc_63 => ?_)
      · refine x_iconst (v := nI 0) (pc := 70) F dX1_isRight_70 (by decide) ?_
        exact x_retz (w := wM) (ty := tM) (pc := 71) F hK hr hlk hQ0 (nar_z _ (by omega)) dX1_isRight_71 (⟨rfl, congrArg nI (bN_f (by omega)).symm⟩)
      · refine x_iconst (v := nI 1) (pc := 66) F dX1_isRight_66 (by decide) ?_
        refine x_goto (tgt := 71) (pc := 67) F dX1_isRight_67 (by decide) ?_
        exact x_retz (w := wM) (ty := tM) (pc := 71) F hK hr hlk hQ0 (nar_z _ (by omega)) dX1_isRight_71 (⟨rfl, congrArg nI (bN_t (by omega)).symm⟩)
  · refine x_tableN (k := 2) (tgt := 72) (pc := 26) F dX1_isRight_26 hsw (by decide) (by decide) (by decide) rfl (by decide) ?_
    refine x_iload_n (pc := 72) F dX1_isRight_72 3 rfl rfl ?_
    refine x_ifB_eq (tgt := 92) (pc := 73) F dX1_isRight_73 (by decide) (fun hc_73 => ?_) (fun hc_73 => ?_)
    · refine x_iconst (v := nI 0) (pc := 92) F dX1_isRight_92 (by decide) ?_
      exact x_retz (w := wM) (ty := tM) (pc := 93) F hK hr hlk hQ0 (nar_z _ (by omega)) dX1_isRight_93 (⟨rfl, congrArg nI (bN_f (by omega)).symm⟩)
    · refine x_iload_n (pc := 76) F dX1_isRight_76 2 rfl rfl ?_
      refine x_aload_n (pc := 77) F dX1_isRight_77 0 rfl rfl ?_
      refine gM_buffer (pc := 78) F hK hin hm_buffer dX1_isRight_78 ?_
      refine x_iload_n (pc := 81) F dX1_isRight_81 1 rfl rfl ?_
      refine x_iconst (v := nI 2) (pc := 82) F dX1_isRight_82 (by decide) ?_
      refine x_isub (z := nI (i - 2)) (pc := 83) F dX1_isRight_83 (pk_sub (by omega)) ?_
      refine lM_buffer (v := G 9 (i - 2)) (pc := 84) F hK dX1_isRight_84 (by omega) rfl ?_
      refine x_icmpN_eq (tgt := 92) (pc := 85) F dX1_isRight_85 (by decide) (by omega) (by omega) (fun hc_85 => ?_) (fun hc_85 => ?_)
      · refine x_iconst (v := nI 0) (pc := 92) F dX1_isRight_92 (by decide) ?_
        exact x_retz (w := wM) (ty := tM) (pc := 93) F hK hr hlk hQ0 (nar_z _ (by omega)) dX1_isRight_93 (⟨rfl, congrArg nI (bN_f (by omega)).symm⟩)
      · refine x_iconst (v := nI 1) (pc := 88) F dX1_isRight_88 (by decide) ?_
        refine x_goto (tgt := 93) (pc := 89) F dX1_isRight_89 (by decide) ?_
        exact x_retz (w := wM) (ty := tM) (pc := 93) F hK hr hlk hQ0 (nar_z _ (by omega)) dX1_isRight_93 (⟨rfl, congrArg nI (bN_t (by omega)).symm⟩)
  · refine x_tableNO (tgt := 94) (pc := 26) F dX1_isRight_26 (by omega) (Or.inr (by omega)) (by decide) ?_
    refine x_iload_n (pc := 94) F dX1_isRight_94 2 rfl rfl ?_
    refine x_bipush (v := nI 44) (pc := 95) F dX1_isRight_95 (by decide) ?_
    refine x_icmpN_eq (tgt := 106) (pc := 97) F dX1_isRight_97 (by decide) (by omega) (by decide) (fun hc_97 => ?_) (fun hc_97 => ?_)
    · refine x_iconst (v := nI 1) (pc := 106) F dX1_isRight_106 (by decide) ?_
      refine x_goto (tgt := 111) (pc := 107) F dX1_isRight_107 (by decide) ?_
      exact x_retz (w := wM) (ty := tM) (pc := 111) F hK hr hlk hQ0 (nar_z _ (by omega)) dX1_isRight_111 (⟨rfl, congrArg nI (bN_t (by omega)).symm⟩)
    · refine x_iload_n (pc := 100) F dX1_isRight_100 2 rfl rfl ?_
      refine x_bipush (v := nI 59) (pc := 101) F dX1_isRight_101 (by decide) ?_
      refine x_icmpN_ne (tgt := 110) (pc := 103) F dX1_isRight_103 (by decide) (by omega) (by decide) (fun hc_103 => ?_) (fun hc_103 => ?_)
      · refine x_iconst (v := nI 0) (pc := 110) F dX1_isRight_110 (by decide) ?_
        exact x_retz (w := wM) (ty := tM) (pc := 111) F hK hr hlk hQ0 (nar_z _ (by omega)) dX1_isRight_111 (⟨rfl, congrArg nI (bN_f (by omega)).symm⟩)
      · refine x_iconst (v := nI 1) (pc := 106) F dX1_isRight_106 (by decide) ?_
        refine x_goto (tgt := 111) (pc := 107) F dX1_isRight_107 (by decide) ?_
        exact x_retz (w := wM) (ty := tM) (pc := 111) F hK hr hlk hQ0 (nar_z _ (by omega)) dX1_isRight_111 (⟨rfl, congrArg nI (bN_t (by omega)).symm⟩)
set_option maxHeartbeats 4000000 in
set_option maxRecDepth 100000 in
theorem c_X1_rightLength (l : Launch) (G : GS) (K : Nat → Nat) (hs : Int64) (hG : ok G) : MCi wM tM l yX1_rightLength wsX1_rightLength ({ frames := 2, cells := 0, slots := 0, locals := 45 }) [] (G, K, hs) (fun r u => u = (G, K, hs) ∧ r = nI (fe G)) := by
  have hG0 := hG
  obtain ⟨b1, b2, b3, b4, b5, b6, b7, b8, b9, b10, b11⟩ := hG0
  refine x_starti (cc := cX1_rightLength) (maxL := 2) (ret := (some .int)) (own := RX1) (by decide) rfl rfl (fun _ => Nat.le_of_ble_eq_true rfl) ?_
  intro p e s m args below meth c D h q cs F hK hr hlk Q0 hQ0
  refine x_lv (lv' := [(0, .ref h)]) [0] rfl ?_
  have hin : ∀ w ∈ wsX10, w ∈ wsX1_rightLength := by decide +kernel
  have hm_length : Cond.fieldLink RX1 72 "GossipScheduleModel" "length" "I" ∈ wsX1_rightLength := by decide +kernel
  refine x_iconst (v := nI 0) (pc := 0) F dX1_rightLength_0 (by decide) ?_
  refine x_istore_n (lv' := [(0, .ref h), (1, .int (nI 0))]) (pc := 1) F dX1_rightLength_1 rfl (by decide) [1, 0] rfl ?_
  have cut_2 : ∀ (fu : Nat) (i : Nat), (i ≤ G 10 0) → (feN G (G 10 0 - i) i = fe G) → (G 10 0 - i) < fu → V p l e ({ frames := 2, cells := 0, slots := 0, locals := 45 }) s m args below meth c 2 0 0 Q0 (IC wM D h q cs s (G, K, hs)) 2 [(0, .ref h), (1, .int (nI i))] [] := by
    intro fu
    induction fu with
    | zero => intro i hi hfe hfu; exact absurd hfu (Nat.not_lt_zero _)
    | succ fu ih_2 =>
      intro i hi hfe hfu
      refine x_iload_n (pc := 2) F dX1_rightLength_2 1 rfl rfl ?_
      refine x_aload_n (pc := 3) F dX1_rightLength_3 0 rfl rfl ?_
      refine gM_length (v := G 10 0) (pc := 4) F hK hin hm_length rfl dX1_rightLength_4 ?_
      refine x_icmpN_ge (tgt := 24) (pc := 7) F dX1_rightLength_7 (by decide) (by omega) (by omega) (fun hc_7 => ?_) (fun hc_7 => ?_)
      · refine x_iload_n (pc := 24) F dX1_rightLength_24 1 rfl rfl ?_
        exact x_reti (w := wM) (ty := tM) (pc := 25) F hK hr hlk hQ0 dX1_rightLength_25 (⟨rfl, congrArg nI (by rw [← hfe, show G 10 0 - i = 0 by omega]; rfl)⟩)
      · refine x_aload_n (pc := 10) F dX1_rightLength_10 0 rfl rfl ?_
        refine x_iload_n (pc := 11) F dX1_rightLength_11 1 rfl rfl ?_
        refine x_calli (w := wM) (ty := tM) (pc := 12) F hK wM_in [.int (nI i)] [] (c_X1_isRight l G K hs i (by omega) hG) (cwV 1 F.2.2.2.2 gX1_rightLength_X1_isRight rfl rfl rfl (by decide +kernel) ⟨Nat.le_of_ble_eq_true rfl, Nat.le_of_ble_eq_true rfl⟩) rfl rfl rfl rfl (Nat.le_of_ble_eq_true rfl) dX1_rightLength_12 ?_
        rintro _ _ ⟨rfl, rfl⟩
        refine x_ifB_eq (tgt := 24) (pc := 15) F dX1_rightLength_15 (by decide) (fun hc_15 => ?_) (fun hc_15 => ?_)
        · refine x_iload_n (pc := 24) F dX1_rightLength_24 1 rfl rfl ?_
          exact x_reti (w := wM) (ty := tM) (pc := 25) F hK hr hlk hQ0 dX1_rightLength_25 (⟨rfl, congrArg nI (by rw [← hfe, feN_f (by omega) hc_15])⟩)
        · refine x_iinc (v := nI (i + 1)) (lv' := [(0, .ref h), (1, .int (nI (i + 1)))]) (pc := 18) F dX1_rightLength_18 1 rfl (nx_inc (b := 1) i (by decide)) (by decide) [1, 0] rfl ?_
          refine x_goto (tgt := 2) (pc := 21) F dX1_rightLength_21 (by decide) ?_
          refine x_lv [0, 1] rfl ?_
          exact ih_2 (i + 1) (by omega) ((feN_next (by omega) hc_15).trans hfe) (by omega)
  refine x_lv [0, 1] rfl ?_
  exact cut_2 ((G 10 0 - 0) + 1) 0 (Nat.zero_le _) rfl (Nat.lt_succ_self _)
set_option maxHeartbeats 4000000 in
set_option maxRecDepth 100000 in
theorem c_X1_firstError (l : Launch) (G : GS) (K : Nat → Nat) (hs : Int64) (hG : ok G) : MCi wM tM l yX1_firstError wsX1_firstError ({ frames := 3, cells := 0, slots := 0, locals := 66 }) [] (G, K, hs) (fun r u => u = (G, K, hs) ∧ r = nI (fe G)) := by
  refine x_starti (cc := cX1_firstError) (maxL := 1) (ret := (some .int)) (own := RX1) (by decide) rfl rfl (fun _ => Nat.le_of_ble_eq_true rfl) ?_
  intro p e s m args below meth c D h q cs F hK hr hlk Q0 hQ0
  refine x_lv (lv' := [(0, .ref h)]) [0] rfl ?_
  refine x_aload_n (pc := 0) F dX1_firstError_0 0 rfl rfl ?_
  refine x_calli (w := wM) (ty := tM) (pc := 1) F hK wM_in [] [] (c_X1_rightLength l G K hs hG) (cwV 0 F.2.2.2.2 gX1_firstError_X1_rightLength rfl rfl rfl (by decide +kernel) ⟨Nat.le_of_ble_eq_true rfl, Nat.le_of_ble_eq_true rfl⟩) rfl rfl rfl rfl (Nat.le_of_ble_eq_true rfl) dX1_firstError_1 ?_
  rintro _ _ ⟨rfl, rfl⟩
  exact x_reti (w := wM) (ty := tM) (pc := 4) F hK hr hlk hQ0 dX1_firstError_4 (⟨rfl, rfl⟩)
