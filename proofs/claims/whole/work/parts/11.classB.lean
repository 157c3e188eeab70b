set_option maxHeartbeats 4000000 in
set_option maxRecDepth 100000 in
theorem c_X0_newSchedule (l : Launch) (G : GS) (L : Nat → Nat) (x y : Int32) : MCi wX tX l yX0_newSchedule wsX0_newSchedule ({ frames := 1, cells := 0, slots := 0, locals := 20 }) [.int (x), .int (y)] (G, L) (fun r u => u = (sg_newSchedule G x y, L) ∧ r = sp_newSchedule x y) := by
  refine x_starti (cc := cX0_newSchedule) (maxL := 3) (ret := (some .int)) (own := RX0) (by decide) rfl rfl (fun _ => Nat.le_of_ble_eq_true rfl) ?_
  intro p e s m args below meth c D h q cs F hK hr hlk Q0 hQ0
  refine x_lv (lv' := [(0, .ref h), (1, .int (x)), (2, .int (y))]) [0, 1, 2] rfl ?_
  have hin : ∀ w ∈ wsX00, w ∈ wsX0_newSchedule := by decide +kernel
  have hm_personTotal : Cond.fieldLink RX0 9 "GossipSchedule" "personTotal" "I" ∈ wsX0_newSchedule := by decide +kernel
  have hm_scheduleMode : Cond.fieldLink RX0 13 "GossipSchedule" "scheduleMode" "I" ∈ wsX0_newSchedule := by decide +kernel
  have hm_graphKind : Cond.fieldLink RX0 16 "GossipSchedule" "graphKind" "I" ∈ wsX0_newSchedule := by decide +kernel
  refine x_iload_n (pc := 0) F dX0_newSchedule_0 1 rfl rfl ?_
  refine x_iconst (v := nI 2) (pc := 1) F dX0_newSchedule_1 (by decide) ?_
  refine x_icmpT_lt (a := (x).toInt) (b := ((2 : Nat) : Int)) (tgt := 11) (pc := 2) F dX0_newSchedule_2 (by decide) rfl (nI_toInt (by omega)) (fun hc_2 => ?_) (fun hc_2 => ?_)
  · refine x_bipush (v := -5) (pc := 11) F dX0_newSchedule_11 (by decide) ?_
    exact x_reti (w := wX) (ty := tX) (pc := 13) F hK hr hlk hQ0 dX0_newSchedule_13 (⟨by rw [sg_newSchedule, if_neg (by omega)], by rw [sp_newSchedule, if_neg (by omega)]⟩)
  · refine x_iload_n (pc := 5) F dX0_newSchedule_5 1 rfl rfl ?_
    refine x_bipush (v := nI 8) (pc := 6) F dX0_newSchedule_6 (by decide) ?_
    refine x_icmpT_le (a := (x).toInt) (b := ((8 : Nat) : Int)) (tgt := 14) (pc := 8) F dX0_newSchedule_8 (by decide) rfl (nI_toInt (by omega)) (fun hc_8 => ?_) (fun hc_8 => ?_)
    · refine x_iload_n (pc := 14) F dX0_newSchedule_14 2 rfl rfl ?_
      refine x_ifT_lt (a := (y).toInt) (tgt := 23) (pc := 15) F dX0_newSchedule_15 (by decide) rfl (fun hc_15 => ?_) (fun hc_15 => ?_)
      · refine x_bipush (v := -5) (pc := 23) F dX0_newSchedule_23 (by decide) ?_
        exact x_reti (w := wX) (ty := tX) (pc := 25) F hK hr hlk hQ0 dX0_newSchedule_25 (⟨by rw [sg_newSchedule, if_neg (by omega)], by rw [sp_newSchedule, if_neg (by omega)]⟩)
      · refine x_iload_n (pc := 18) F dX0_newSchedule_18 2 rfl rfl ?_
        refine x_iconst (v := nI 2) (pc := 19) F dX0_newSchedule_19 (by decide) ?_
        refine x_icmpT_le (a := (y).toInt) (b := ((2 : Nat) : Int)) (tgt := 26) (pc := 20) F dX0_newSchedule_20 (by decide) rfl (nI_toInt (by omega)) (fun hc_20 => ?_) (fun hc_20 => ?_)
        · obtain ⟨ja, h_ja, rfl⟩ := nI_ofR (x := x) (n := 9) (by omega) (by omega)
          have e_ja : (nI ja).toInt = (ja : Int) := nI_toInt (by omega)
          obtain ⟨jb, h_jb, rfl⟩ := nI_ofR (x := y) (n := 3) (by omega) (by omega)
          have e_jb : (nI jb).toInt = (jb : Int) := nI_toInt (by omega)
          refine x_aload_n (pc := 26) F dX0_newSchedule_26 0 rfl rfl ?_
          refine x_iload_n (pc := 27) F dX0_newSchedule_27 1 rfl rfl ?_
          refine pX_personTotal (pc := 28) F hK hin hm_personTotal dX0_newSchedule_28 ?_
          refine x_aload_n (pc := 31) F dX0_newSchedule_31 0 rfl rfl ?_
          refine x_iload_n (pc := 32) F dX0_newSchedule_32 2 rfl rfl ?_
          refine pX_scheduleMode (pc := 33) F hK hin hm_scheduleMode dX0_newSchedule_33 ?_
          refine x_aload_n (pc := 36) F dX0_newSchedule_36 0 rfl rfl ?_
          refine x_iconst (v := nI 0) (pc := 37) F dX0_newSchedule_37 (by decide) ?_
          refine pX_graphKind (pc := 38) F hK hin hm_graphKind dX0_newSchedule_38 ?_
          refine x_aload_n (pc := 41) F dX0_newSchedule_41 0 rfl rfl ?_
          refine x_callv (w := wX) (ty := tX) (pc := 42) F hK wX_in [] [] (c_X0_dropRounds l (up (up (up G 0 0 ja) 1 0 jb) 2 0 0) L) (cwV 0 F.2.2.2.2 gX0_newSchedule_X0_dropRounds rfl rfl rfl (by decide +kernel) ⟨Nat.le_of_ble_eq_true rfl, Nat.le_of_ble_eq_true rfl⟩) rfl rfl rfl rfl (Nat.le_of_ble_eq_true rfl) dX0_newSchedule_42 ?_
          rintro _ rfl
          refine x_aload_n (pc := 45) F dX0_newSchedule_45 0 rfl rfl ?_
          refine gX_personTotal (v := ja) (pc := 46) F hK hin hm_personTotal rfl dX0_newSchedule_46 ?_
          exact x_reti (w := wX) (ty := tX) (pc := 49) F hK hr hlk hQ0 dX0_newSchedule_49 (⟨by rw [sg_newSchedule, if_pos (by omega), toNat_nI (by omega), toNat_nI (by omega)], by rw [sp_newSchedule, if_pos (by omega)]⟩)
        · refine x_bipush (v := -5) (pc := 23) F dX0_newSchedule_23 (by decide) ?_
          exact x_reti (w := wX) (ty := tX) (pc := 25) F hK hr hlk hQ0 dX0_newSchedule_25 (⟨by rw [sg_newSchedule, if_neg (by omega)], by rw [sp_newSchedule, if_neg (by omega)]⟩)
    · refine x_bipush (v := -5) (pc := 11) F dX0_newSchedule_11 (by decide) ?_
      exact x_reti (w := wX) (ty := tX) (pc := 13) F hK hr hlk hQ0 dX0_newSchedule_13 (⟨by rw [sg_newSchedule, if_neg (by omega)], by rw [sp_newSchedule, if_neg (by omega)]⟩)
set_option maxHeartbeats 4000000 in
set_option maxRecDepth 100000 in
theorem c_X0_setGraph (l : Launch) (G : GS) (L : Nat → Nat) (x : Int32) (hG : ok G) : MCi wX tX l yX0_setGraph wsX0_setGraph ({ frames := 2, cells := 0, slots := 0, locals := 40 }) [.int (x)] (G, L) (fun r u => u = (sg_setGraph G x, L) ∧ r = sp_setGraph G x) := by
  have hG0 := hG
  obtain ⟨b1, b2, b3, b4, b5, b6, b7, b8, b9, b10, b11⟩ := hG0
  refine x_starti (cc := cX0_setGraph) (maxL := 3) (ret := (some .int)) (own := RX0) (by decide) rfl rfl (fun _ => Nat.le_of_ble_eq_true rfl) ?_
  intro p e s m args below meth c D h q cs F hK hr hlk Q0 hQ0
  refine x_lv (lv' := [(0, .ref h), (1, .int (x))]) [0, 1] rfl ?_
  have hin : ∀ w ∈ wsX00, w ∈ wsX0_setGraph := by decide +kernel
  have hm_graphKind : Cond.fieldLink RX0 16 "GossipSchedule" "graphKind" "I" ∈ wsX0_setGraph := by decide +kernel
  refine x_iload_n (pc := 0) F dX0_setGraph_0 1 rfl rfl ?_
  refine x_ifT_lt (a := (x).toInt) (tgt := 9) (pc := 1) F dX0_setGraph_1 (by decide) rfl (fun hc_1 => ?_) (fun hc_1 => ?_)
  · refine x_bipush (v := -5) (pc := 9) F dX0_setGraph_9 (by decide) ?_
    exact x_reti (w := wX) (ty := tX) (pc := 11) F hK hr hlk hQ0 dX0_setGraph_11 (⟨by rw [sg_setGraph, if_neg (by omega)], by rw [sp_setGraph, if_neg (by omega)]⟩)
  · refine x_iload_n (pc := 4) F dX0_setGraph_4 1 rfl rfl ?_
    refine x_iconst (v := nI 4) (pc := 5) F dX0_setGraph_5 (by decide) ?_
    refine x_icmpT_le (a := (x).toInt) (b := ((4 : Nat) : Int)) (tgt := 12) (pc := 6) F dX0_setGraph_6 (by decide) rfl (nI_toInt (by omega)) (fun hc_6 => ?_) (fun hc_6 => ?_)
    · obtain ⟨ja, h_ja, rfl⟩ := nI_ofR (x := x) (n := 5) (by omega) (by omega)
      have e_ja : (nI ja).toInt = (ja : Int) := nI_toInt (by omega)
      refine x_iload_n (pc := 12) F dX0_setGraph_12 1 rfl rfl ?_
      refine x_iconst (v := nI 4) (pc := 13) F dX0_setGraph_13 (by decide) ?_
      refine x_icmpN_ne (tgt := 27) (pc := 14) F dX0_setGraph_14 (by decide) (by omega) (by decide) (fun hc_14 => ?_) (fun hc_14 => ?_)
      · refine x_aload_n (pc := 27) F dX0_setGraph_27 0 rfl rfl ?_
        refine gX_graphKind (v := G 2 0) (pc := 28) F hK hin hm_graphKind rfl dX0_setGraph_28 ?_
        refine x_istore_n (lv' := [(0, .ref h), (1, .int (nI ja)), (2, .int (nI (G 2 0)))]) (pc := 31) F dX0_setGraph_31 rfl (by decide) [1, 2, 0] rfl ?_
        refine x_aload_n (pc := 32) F dX0_setGraph_32 0 rfl rfl ?_
        refine x_iload_n (pc := 33) F dX0_setGraph_33 1 rfl rfl ?_
        refine pX_graphKind (pc := 34) F hK hin hm_graphKind dX0_setGraph_34 ?_
        refine x_iload_n (pc := 37) F dX0_setGraph_37 2 rfl rfl ?_
        exact x_reti (w := wX) (ty := tX) (pc := 38) F hK hr hlk hQ0 dX0_setGraph_38 (⟨by rw [sg_setGraph, if_pos (by omega), if_neg (fun z => absurd z.1 (by omega)), toNat_nI (by omega)], by rw [sp_setGraph, if_pos (by omega), if_neg (fun z => absurd z.1 (by omega))]⟩)
      · refine x_aload_n (pc := 17) F dX0_setGraph_17 0 rfl rfl ?_
        refine x_calli (w := wX) (ty := tX) (pc := 18) F hK wX_in [] [] (c_X0_personsFillCube l G L (by omega) (by omega)) (cwV 0 F.2.2.2.2 gX0_setGraph_X0_personsFillCube rfl rfl rfl (by decide +kernel) ⟨Nat.le_of_ble_eq_true rfl, Nat.le_of_ble_eq_true rfl⟩) rfl rfl rfl rfl (Nat.le_of_ble_eq_true rfl) dX0_setGraph_18 ?_
        rintro _ _ ⟨rfl, rfl⟩
        refine x_ifB_ne (tgt := 27) (pc := 21) F dX0_setGraph_21 (by decide) (fun hc_21 => ?_) (fun hc_21 => ?_)
        · refine x_aload_n (pc := 27) F dX0_setGraph_27 0 rfl rfl ?_
          refine gX_graphKind (v := G 2 0) (pc := 28) F hK hin hm_graphKind rfl dX0_setGraph_28 ?_
          refine x_istore_n (lv' := [(0, .ref h), (1, .int (nI ja)), (2, .int (nI (G 2 0)))]) (pc := 31) F dX0_setGraph_31 rfl (by decide) [1, 2, 0] rfl ?_
          refine x_aload_n (pc := 32) F dX0_setGraph_32 0 rfl rfl ?_
          refine x_iload_n (pc := 33) F dX0_setGraph_33 1 rfl rfl ?_
          refine pX_graphKind (pc := 34) F hK hin hm_graphKind dX0_setGraph_34 ?_
          refine x_iload_n (pc := 37) F dX0_setGraph_37 2 rfl rfl ?_
          exact x_reti (w := wX) (ty := tX) (pc := 38) F hK hr hlk hQ0 dX0_setGraph_38 (⟨by rw [sg_setGraph, if_pos (by omega), if_neg (fun z => z.2 hc_21), toNat_nI (by omega)], by rw [sp_setGraph, if_pos (by omega), if_neg (fun z => z.2 hc_21)]⟩)
        · refine x_bipush (v := -14) (pc := 24) F dX0_setGraph_24 (by decide) ?_
          exact x_reti (w := wX) (ty := tX) (pc := 26) F hK hr hlk hQ0 dX0_setGraph_26 (⟨by rw [sg_setGraph, if_pos (by omega), if_pos ⟨by omega, hc_21⟩], by rw [sp_setGraph, if_pos (by omega), if_pos ⟨by omega, hc_21⟩]⟩)
    · refine x_bipush (v := -5) (pc := 9) F dX0_setGraph_9 (by decide) ?_
      exact x_reti (w := wX) (ty := tX) (pc := 11) F hK hr hlk hQ0 dX0_setGraph_11 (⟨by rw [sg_setGraph, if_neg (by omega)], by rw [sp_setGraph, if_neg (by omega)]⟩)
set_option maxHeartbeats 4000000 in
set_option maxRecDepth 100000 in
theorem c_X0_areNeighbors (l : Launch) (G : GS) (L : Nat → Nat) (x y : Int32) (hG : ok G) : MCi wX tX l yX0_areNeighbors wsX0_areNeighbors ({ frames := 2, cells := 0, slots := 0, locals := 46 }) [.int (x), .int (y)] (G, L) (fun r u => u = (G, L) ∧ r = sp_areNeighbors G x y) := by
  have hG0 := hG
  obtain ⟨b1, b2, b3, b4, b5, b6, b7, b8, b9, b10, b11⟩ := hG0
  refine x_starti (cc := cX0_areNeighbors) (maxL := 3) (ret := (some .int)) (own := RX0) (by decide) rfl rfl (fun _ => Nat.le_of_ble_eq_true rfl) ?_
  intro p e s m args below meth c D h q cs F hK hr hlk Q0 hQ0
  refine x_lv (lv' := [(0, .ref h), (1, .int (x)), (2, .int (y))]) [0, 1, 2] rfl ?_
  refine x_aload_n (pc := 0) F dX0_areNeighbors_0 0 rfl rfl ?_
  refine x_iload_n (pc := 1) F dX0_areNeighbors_1 1 rfl rfl ?_
  refine x_calli (w := wX) (ty := tX) (pc := 2) F hK wX_in [.int (x)] [] (c_X0_personExists l G L x ((x).toInt) rfl (by omega)) (cwV 1 F.2.2.2.2 gX0_areNeighbors_X0_personExists rfl rfl rfl (by decide +kernel) ⟨Nat.le_of_ble_eq_true rfl, Nat.le_of_ble_eq_true rfl⟩) rfl rfl rfl rfl (Nat.le_of_ble_eq_true rfl) dX0_areNeighbors_2 ?_
  rintro _ _ ⟨rfl, rfl⟩
  refine x_ifB_eq (tgt := 16) (pc := 5) F dX0_areNeighbors_5 (by decide) (fun hc_5 => ?_) (fun hc_5 => ?_)
  · refine x_bipush (v := -6) (pc := 16) F dX0_areNeighbors_16 (by decide) ?_
    exact x_reti (w := wX) (ty := tX) (pc := 18) F hK hr hlk hQ0 dX0_areNeighbors_18 (⟨rfl, by rw [sp_areNeighbors, if_neg (by unfold inR; omega)]⟩)
  · refine x_aload_n (pc := 8) F dX0_areNeighbors_8 0 rfl rfl ?_
    refine x_iload_n (pc := 9) F dX0_areNeighbors_9 2 rfl rfl ?_
    refine x_calli (w := wX) (ty := tX) (pc := 10) F hK wX_in [.int (y)] [] (c_X0_personExists l G L y ((y).toInt) rfl (by omega)) (cwV 1 F.2.2.2.2 gX0_areNeighbors_X0_personExists rfl rfl rfl (by decide +kernel) ⟨Nat.le_of_ble_eq_true rfl, Nat.le_of_ble_eq_true rfl⟩) rfl rfl rfl rfl (Nat.le_of_ble_eq_true rfl) dX0_areNeighbors_10 ?_
    rintro _ _ ⟨rfl, rfl⟩
    refine x_ifB_ne (tgt := 19) (pc := 13) F dX0_areNeighbors_13 (by decide) (fun hc_13 => ?_) (fun hc_13 => ?_)
    · obtain ⟨ja, h_ja, rfl⟩ := nI_ofR (x := x) (n := G 0 0) (by omega) (by omega)
      have e_ja : (nI ja).toInt = (ja : Int) := nI_toInt (by omega)
      obtain ⟨jb, h_jb, rfl⟩ := nI_ofR (x := y) (n := G 0 0) (by omega) (by omega)
      have e_jb : (nI jb).toInt = (jb : Int) := nI_toInt (by omega)
      refine x_aload_n (pc := 19) F dX0_areNeighbors_19 0 rfl rfl ?_
      refine x_iload_n (pc := 20) F dX0_areNeighbors_20 1 rfl rfl ?_
      refine x_iload_n (pc := 21) F dX0_areNeighbors_21 2 rfl rfl ?_
      refine x_calli (w := wX) (ty := tX) (pc := 22) F hK wX_in [.int (nI ja), .int (nI jb)] [] (c_X0_graphJoins l G L ja jb (by have hq_0 : G 0 0 = G 0 0 := rfl; omega) (by have hq_0 : G 0 0 = G 0 0 := rfl; omega) (by have hq_0 : G 0 0 = G 0 0 := rfl; omega) (by have hq_2 : G 2 0 = G 2 0 := rfl; omega)) (cwV 2 F.2.2.2.2 gX0_areNeighbors_X0_graphJoins rfl rfl rfl (by decide +kernel) ⟨Nat.le_of_ble_eq_true rfl, Nat.le_of_ble_eq_true rfl⟩) rfl rfl rfl rfl (Nat.le_of_ble_eq_true rfl) dX0_areNeighbors_22 ?_
      rintro _ _ ⟨rfl, rfl⟩
      refine x_ifB_eq (tgt := 32) (pc := 25) F dX0_areNeighbors_25 (by decide) (fun hc_25 => ?_) (fun hc_25 => ?_)
      · refine x_iconst (v := nI 0) (pc := 32) F dX0_areNeighbors_32 (by decide) ?_
        exact x_reti (w := wX) (ty := tX) (pc := 33) F hK hr hlk hQ0 dX0_areNeighbors_33 (⟨rfl, by rw [sp_areNeighbors, if_pos (by unfold inR; omega), toNat_nI (by omega), toNat_nI (by omega), bN_f hc_25]⟩)
      · refine x_iconst (v := nI 1) (pc := 28) F dX0_areNeighbors_28 (by decide) ?_
        refine x_goto (tgt := 33) (pc := 29) F dX0_areNeighbors_29 (by decide) ?_
        exact x_reti (w := wX) (ty := tX) (pc := 33) F hK hr hlk hQ0 dX0_areNeighbors_33 (⟨rfl, by rw [sp_areNeighbors, if_pos (by unfold inR; omega), toNat_nI (by omega), toNat_nI (by omega), bN_t hc_25]⟩)
    · refine x_bipush (v := -6) (pc := 16) F dX0_areNeighbors_16 (by decide) ?_
      exact x_reti (w := wX) (ty := tX) (pc := 18) F hK hr hlk hQ0 dX0_areNeighbors_18 (⟨rfl, by rw [sp_areNeighbors, if_neg (by unfold inR; omega)]⟩)
set_option maxHeartbeats 4000000 in
set_option maxRecDepth 100000 in
theorem c_X0_addRound (l : Launch) (G : GS) (L : Nat → Nat) (hG : ok G) : MCi wX tX l yX0_addRound wsX0_addRound ({ frames := 0, cells := 0, slots := 0, locals := 0 }) [] (G, L) (fun r u => u = (sg_addRound G, L) ∧ r = sp_addRound G) := by
  have hG0 := hG
  obtain ⟨b1, b2, b3, b4, b5, b6, b7, b8, b9, b10, b11⟩ := hG0
  refine x_starti (cc := cX0_addRound) (maxL := 1) (ret := (some .int)) (own := RX0) (by decide) rfl rfl (fun _ => Nat.le_of_ble_eq_true rfl) ?_
  intro p e s m args below meth c D h q cs F hK hr hlk Q0 hQ0
  refine x_lv (lv' := [(0, .ref h)]) [0] rfl ?_
  have hin : ∀ w ∈ wsX00, w ∈ wsX0_addRound := by decide +kernel
  have hm_roundTotal : Cond.fieldLink RX0 55 "GossipSchedule" "roundTotal" "I" ∈ wsX0_addRound := by decide +kernel
  refine x_aload_n (pc := 0) F dX0_addRound_0 0 rfl rfl ?_
  refine gX_roundTotal (v := G 3 0) (pc := 1) F hK hin hm_roundTotal rfl dX0_addRound_1 ?_
  refine x_bipush (v := nI 16) (pc := 4) F dX0_addRound_4 (by decide) ?_
  refine x_icmpN_lt (tgt := 12) (pc := 6) F dX0_addRound_6 (by decide) (by omega) (by decide) (fun hc_6 => ?_) (fun hc_6 => ?_)
  · refine x_aload_n (pc := 12) F dX0_addRound_12 0 rfl rfl ?_
    refine x_dup (pc := 13) F dX0_addRound_13 rfl ?_
    refine gX_roundTotal (v := G 3 0) (pc := 14) F hK hin hm_roundTotal rfl dX0_addRound_14 ?_
    refine x_iconst (v := nI 1) (pc := 17) F dX0_addRound_17 (by decide) ?_
    refine x_iadd (z := nI (G 3 0 + 1)) (pc := 18) F dX0_addRound_18 (nI_add (G 3 0) 1) ?_
    refine pX_roundTotal (pc := 19) F hK hin hm_roundTotal dX0_addRound_19 ?_
    refine x_aload_n (pc := 22) F dX0_addRound_22 0 rfl rfl ?_
    refine gX_roundTotal (v := G 3 0 + 1) (pc := 23) F hK hin hm_roundTotal rfl dX0_addRound_23 ?_
    exact x_reti (w := wX) (ty := tX) (pc := 26) F hK hr hlk hQ0 dX0_addRound_26 (⟨by rw [sg_addRound, if_pos (by omega)], by rw [sp_addRound, if_pos (by omega)]⟩)
  · refine x_bipush (v := -12) (pc := 9) F dX0_addRound_9 (by decide) ?_
    exact x_reti (w := wX) (ty := tX) (pc := 11) F hK hr hlk hQ0 dX0_addRound_11 (⟨by rw [sg_addRound, if_neg (by omega)], by rw [sp_addRound, if_neg (by omega)]⟩)
set_option maxHeartbeats 4000000 in
set_option maxRecDepth 100000 in
theorem c_X0_busyInLastRound (l : Launch) (G : GS) (L : Nat → Nat) (hG : ok G) (h3 : G 3 0 ≠ 0) : MCi wX tX l yX0_busyInLastRound wsX0_busyInLastRound ({ frames := 1, cells := 0, slots := 0, locals := 21 }) [] (G, L) (fun r u => u = (G, L) ∧ ∃ b, r = nI b ∧ b < 256 ∧ ∀ p, p < 8 → b.testBit p = busyB G p) := by
  have hG0 := hG
  obtain ⟨b1, b2, b3, b4, b5, b6, b7, b8, b9, b10, b11⟩ := hG0
  refine x_starti (cc := cX0_busyInLastRound) (maxL := 3) (ret := (some .int)) (own := RX0) (by decide) rfl rfl (fun _ => Nat.le_of_ble_eq_true rfl) ?_
  intro p e s m args below meth c D h q cs F hK hr hlk Q0 hQ0
  refine x_lv (lv' := [(0, .ref h)]) [0] rfl ?_
  have hin : ∀ w ∈ wsX00, w ∈ wsX0_busyInLastRound := by decide +kernel
  have hm_callTotal : Cond.fieldLink RX0 70 "GossipSchedule" "callTotal" "I" ∈ wsX0_busyInLastRound := by decide +kernel
  have hm_roundOf : Cond.fieldLink RX0 19 "GossipSchedule" "roundOf" "[I" ∈ wsX0_busyInLastRound := by decide +kernel
  have hm_roundTotal : Cond.fieldLink RX0 55 "GossipSchedule" "roundTotal" "I" ∈ wsX0_busyInLastRound := by decide +kernel
  have hm_callerOf : Cond.fieldLink RX0 23 "GossipSchedule" "callerOf" "[I" ∈ wsX0_busyInLastRound := by decide +kernel
  have hm_calleeOf : Cond.fieldLink RX0 26 "GossipSchedule" "calleeOf" "[I" ∈ wsX0_busyInLastRound := by decide +kernel
  refine x_iconst (v := nI 0) (pc := 0) F dX0_busyInLastRound_0 (by decide) ?_
  refine x_istore_n (lv' := [(0, .ref h), (1, .int (nI 0))]) (pc := 1) F dX0_busyInLastRound_1 rfl (by decide) [1, 0] rfl ?_
  refine x_aload_n (pc := 2) F dX0_busyInLastRound_2 0 rfl rfl ?_
  refine gX_callTotal (v := G 4 0) (pc := 3) F hK hin hm_callTotal rfl dX0_busyInLastRound_3 ?_
  refine x_iconst (v := nI 1) (pc := 6) F dX0_busyInLastRound_6 (by decide) ?_
  refine x_isub (pc := 7) F dX0_busyInLastRound_7 rfl ?_
  refine x_istore_n (lv' := [(0, .ref h), (1, .int (nI 0)), (2, .int (nI (G 4 0) - 1))]) (pc := 8) F dX0_busyInLastRound_8 rfl (by decide) [1, 2, 0] rfl ?_
  have cut_9 : ∀ (fu : Nat) (k : Nat) (bz : Nat), (k ≤ G 4 0) → (busyS G k bz) → (k) < fu → V p l e ({ frames := 1, cells := 0, slots := 0, locals := 21 }) s m args below meth c 3 0 0 Q0 (IC wX D h q cs s (G, L)) 9 [(0, .ref h), (1, .int (nI bz)), (2, .int (nI k - 1))] [] := by
    intro fu
    induction fu with
    | zero => intro k bz hk hbz hfu; exact absurd hfu (Nat.not_lt_zero _)
    | succ fu ih_9 =>
      intro k bz hk hbz hfu
      refine x_iload_n (pc := 9) F dX0_busyInLastRound_9 2 rfl rfl ?_
      refine x_ifT_lt (a := ((k : Nat) : Int) - 1) (tgt := 52) (pc := 10) F dX0_busyInLastRound_10 (by decide) (nI_m1 (by omega)) (fun hc_10 => ?_) (fun hc_10 => ?_)
      · refine x_iload_n (pc := 52) F dX0_busyInLastRound_52 1 rfl rfl ?_
        exact x_reti (w := wX) (ty := tX) (pc := 53) F hK hr hlk hQ0 dX0_busyInLastRound_53 (⟨rfl, bz, rfl, hbz.1, busyS_end hbz hG h3 hk (Or.inl (by omega))⟩)
      · obtain ⟨j, rfl⟩ : ∃ j, k = j + 1 := ⟨k - 1, by omega⟩
        rw [nI_pred j]
        have hj := b8 j (by omega)
        refine x_aload_n (pc := 13) F dX0_busyInLastRound_13 0 rfl rfl ?_
        refine gX_roundOf (pc := 14) F hK hin hm_roundOf dX0_busyInLastRound_14 ?_
        refine x_iload_n (pc := 17) F dX0_busyInLastRound_17 2 rfl rfl ?_
        refine lX_roundOf (v := G 5 j) (pc := 18) F hK dX0_busyInLastRound_18 (by omega) rfl ?_
        refine x_aload_n (pc := 19) F dX0_busyInLastRound_19 0 rfl rfl ?_
        refine gX_roundTotal (v := G 3 0) (pc := 20) F hK hin hm_roundTotal rfl dX0_busyInLastRound_20 ?_
        refine x_iconst (v := nI 1) (pc := 23) F dX0_busyInLastRound_23 (by decide) ?_
        refine x_isub (z := nI (G 3 0 - 1)) (pc := 24) F dX0_busyInLastRound_24 (pk_sub (by omega)) ?_
        refine x_icmpN_ne (tgt := 52) (pc := 25) F dX0_busyInLastRound_25 (by decide) (by omega) (by omega) (fun hc_25 => ?_) (fun hc_25 => ?_)
        · refine x_iload_n (pc := 52) F dX0_busyInLastRound_52 1 rfl rfl ?_
          exact x_reti (w := wX) (ty := tX) (pc := 53) F hK hr hlk hQ0 dX0_busyInLastRound_53 (⟨rfl, bz, rfl, hbz.1, busyS_end hbz hG h3 hk (Or.inr hc_25)⟩)
        · refine x_iload_n (pc := 28) F dX0_busyInLastRound_28 1 rfl rfl ?_
          refine x_aload_n (pc := 29) F dX0_busyInLastRound_29 0 rfl rfl ?_
          refine gX_callerOf (pc := 30) F hK hin hm_callerOf dX0_busyInLastRound_30 ?_
          refine x_iload_n (pc := 33) F dX0_busyInLastRound_33 2 rfl rfl ?_
          refine lX_callerOf (v := G 6 j) (pc := 34) F hK dX0_busyInLastRound_34 (by omega) rfl ?_
          refine x_aload_n (pc := 35) F dX0_busyInLastRound_35 0 rfl rfl ?_
          refine gX_calleeOf (pc := 36) F hK hin hm_calleeOf dX0_busyInLastRound_36 ?_
          refine x_iload_n (pc := 39) F dX0_busyInLastRound_39 2 rfl rfl ?_
          refine lX_calleeOf (v := G 7 j) (pc := 40) F hK dX0_busyInLastRound_40 (by omega) rfl ?_
          refine x_scalli (pc := 41) F [.int (nI (G 6 j)), .int (nI (G 7 j))] [.int (nI bz)] (c_X0_pairOf l (G 6 j) (G 7 j) (by omega) (by omega)) (va_cwS 2 F.2.2.2.2 gX0_busyInLastRound_X0_pairOf rfl rfl rfl (by decide +kernel) ⟨Nat.le_of_ble_eq_true rfl, Nat.le_of_ble_eq_true rfl⟩) rfl rfl (Nat.le_of_ble_eq_true rfl) dX0_busyInLastRound_41 ?_
          rintro _ rfl
          refine x_ior (z := nI (bz ||| (1 * 2 ^ (G 6 j) ||| 1 * 2 ^ (G 7 j)))) (pc := 44) F dX0_busyInLastRound_44 (nx_or bz (1 * 2 ^ (G 6 j) ||| 1 * 2 ^ (G 7 j))) ?_
          refine x_istore_n (lv' := [(0, .ref h), (1, .int (nI (bz ||| (1 * 2 ^ (G 6 j) ||| 1 * 2 ^ (G 7 j))))), (2, .int (nI j))]) (pc := 45) F dX0_busyInLastRound_45 rfl (by decide) [1, 0, 2] rfl ?_
          refine x_iinc (v := nI j - 1) (lv' := [(0, .ref h), (1, .int (nI (bz ||| (1 * 2 ^ (G 6 j) ||| 1 * 2 ^ (G 7 j))))), (2, .int (nI j - 1))]) (pc := 46) F dX0_busyInLastRound_46 2 rfl (nI_d1 j) (by decide) [1, 2, 0] rfl ?_
          refine x_goto (tgt := 9) (pc := 49) F dX0_busyInLastRound_49 (by decide) ?_
          refine x_lv [0, 1, 2] rfl ?_
          exact ih_9 j (bz ||| (1 * 2 ^ (G 6 j) ||| 1 * 2 ^ (G 7 j))) (by omega) (busyS_step hbz (by omega) hc_25 (by omega) (by omega)) (by omega)
  refine x_lv [0, 1, 2] rfl ?_
  exact cut_9 (((G 4 0)) + 1) (G 4 0) 0 (Nat.le_refl _) (busyS_0 G) (Nat.lt_succ_self _)
set_option maxHeartbeats 4000000 in
set_option maxRecDepth 100000 in
theorem c_X0_addCall (l : Launch) (G : GS) (L : Nat → Nat) (x y : Int32) (w : Nat) (hw : w < 2) (hG : ok G) : MCi wX tX l yX0_addCall wsX0_addCall ({ frames := 2, cells := 0, slots := 0, locals := 46 }) [.int (x), .int (y), .int (nI w)] (G, L) (fun r u => u = (sg_addCall G x y w, L) ∧ r = sp_addCall G x y w) := by
  have hG0 := hG
  obtain ⟨b1, b2, b3, b4, b5, b6, b7, b8, b9, b10, b11⟩ := hG0
  refine x_starti (cc := cX0_addCall) (maxL := 4) (ret := (some .int)) (own := RX0) (by decide) rfl rfl (fun _ => Nat.le_of_ble_eq_true rfl) ?_
  intro p e s m args below meth c D h q cs F hK hr hlk Q0 hQ0
  refine x_lv (lv' := [(0, .ref h), (1, .int (x)), (2, .int (y)), (3, .int (nI w))]) [0, 1, 2, 3] rfl ?_
  have hin : ∀ w ∈ wsX00, w ∈ wsX0_addCall := by decide +kernel
  have hm_roundTotal : Cond.fieldLink RX0 55 "GossipSchedule" "roundTotal" "I" ∈ wsX0_addCall := by decide +kernel
  have hm_callTotal : Cond.fieldLink RX0 70 "GossipSchedule" "callTotal" "I" ∈ wsX0_addCall := by decide +kernel
  refine x_aload_n (pc := 0) F dX0_addCall_0 0 rfl rfl ?_
  refine x_iload_n (pc := 1) F dX0_addCall_1 1 rfl rfl ?_
  refine x_calli (w := wX) (ty := tX) (pc := 2) F hK wX_in [.int (x)] [] (c_X0_personExists l G L x ((x).toInt) rfl (by omega)) (cwV 1 F.2.2.2.2 gX0_addCall_X0_personExists rfl rfl rfl (by decide +kernel) ⟨Nat.le_of_ble_eq_true rfl, Nat.le_of_ble_eq_true rfl⟩) rfl rfl rfl rfl (Nat.le_of_ble_eq_true rfl) dX0_addCall_2 ?_
  rintro _ _ ⟨rfl, rfl⟩
  refine x_ifB_eq (tgt := 16) (pc := 5) F dX0_addCall_5 (by decide) (fun hc_5 => ?_) (fun hc_5 => ?_)
  · refine x_bipush (v := -6) (pc := 16) F dX0_addCall_16 (by decide) ?_
    exact x_reti (w := wX) (ty := tX) (pc := 18) F hK hr hlk hQ0 dX0_addCall_18 (⟨by rw [sg_addCall, if_neg (by unfold inR; omega)], by rw [sp_addCall, if_neg (by unfold inR; omega)]⟩)
  · refine x_aload_n (pc := 8) F dX0_addCall_8 0 rfl rfl ?_
    refine x_iload_n (pc := 9) F dX0_addCall_9 2 rfl rfl ?_
    refine x_calli (w := wX) (ty := tX) (pc := 10) F hK wX_in [.int (y)] [] (c_X0_personExists l G L y ((y).toInt) rfl (by omega)) (cwV 1 F.2.2.2.2 gX0_addCall_X0_personExists rfl rfl rfl (by decide +kernel) ⟨Nat.le_of_ble_eq_true rfl, Nat.le_of_ble_eq_true rfl⟩) rfl rfl rfl rfl (Nat.le_of_ble_eq_true rfl) dX0_addCall_10 ?_
    rintro _ _ ⟨rfl, rfl⟩
    refine x_ifB_ne (tgt := 19) (pc := 13) F dX0_addCall_13 (by decide) (fun hc_13 => ?_) (fun hc_13 => ?_)
    · obtain ⟨ja, h_ja, rfl⟩ := nI_ofR (x := x) (n := G 0 0) (by omega) (by omega)
      have e_ja : (nI ja).toInt = (ja : Int) := nI_toInt (by omega)
      obtain ⟨jb, h_jb, rfl⟩ := nI_ofR (x := y) (n := G 0 0) (by omega) (by omega)
      have e_jb : (nI jb).toInt = (jb : Int) := nI_toInt (by omega)
      refine x_aload_n (pc := 19) F dX0_addCall_19 0 rfl rfl ?_
      refine x_iload_n (pc := 20) F dX0_addCall_20 1 rfl rfl ?_
      refine x_iload_n (pc := 21) F dX0_addCall_21 2 rfl rfl ?_
      refine x_calli (w := wX) (ty := tX) (pc := 22) F hK wX_in [.int (nI ja), .int (nI jb)] [] (c_X0_graphJoins l G L ja jb (by have hq_0 : G 0 0 = G 0 0 := rfl; omega) (by have hq_0 : G 0 0 = G 0 0 := rfl; omega) (by have hq_0 : G 0 0 = G 0 0 := rfl; omega) (by have hq_2 : G 2 0 = G 2 0 := rfl; omega)) (cwV 2 F.2.2.2.2 gX0_addCall_X0_graphJoins rfl rfl rfl (by decide +kernel) ⟨Nat.le_of_ble_eq_true rfl, Nat.le_of_ble_eq_true rfl⟩) rfl rfl rfl rfl (Nat.le_of_ble_eq_true rfl) dX0_addCall_22 ?_
      rintro _ _ ⟨rfl, rfl⟩
      refine x_ifB_ne (tgt := 31) (pc := 25) F dX0_addCall_25 (by decide) (fun hc_25 => ?_) (fun hc_25 => ?_)
      · refine x_aload_n (pc := 31) F dX0_addCall_31 0 rfl rfl ?_
        refine gX_roundTotal (v := G 3 0) (pc := 32) F hK hin hm_roundTotal rfl dX0_addCall_32 ?_
        refine x_ifN_ne (tgt := 41) (pc := 35) F dX0_addCall_35 (by decide) (by omega) (fun hc_35 => ?_) (fun hc_35 => ?_)
        · refine x_aload_n (pc := 41) F dX0_addCall_41 0 rfl rfl ?_
          refine x_calli (w := wX) (ty := tX) (pc := 42) F hK wX_in [] [] (c_X0_busyInLastRound l G L hG (by omega)) (cwV 0 F.2.2.2.2 gX0_addCall_X0_busyInLastRound rfl rfl rfl (by decide +kernel) ⟨Nat.le_of_ble_eq_true rfl, Nat.le_of_ble_eq_true rfl⟩) rfl rfl rfl rfl (Nat.le_of_ble_eq_true rfl) dX0_addCall_42 ?_
          rintro _ _ ⟨rfl, bz, rfl, hbz, hbt⟩
          refine x_iload_n (pc := 45) F dX0_addCall_45 1 rfl rfl ?_
          refine x_iload_n (pc := 46) F dX0_addCall_46 2 rfl rfl ?_
          refine x_scalli (pc := 47) F [.int (nI ja), .int (nI jb)] [.int (nI bz)] (c_X0_pairOf l ja jb (by omega) (by omega)) (va_cwS 2 F.2.2.2.2 gX0_addCall_X0_pairOf rfl rfl rfl (by decide +kernel) ⟨Nat.le_of_ble_eq_true rfl, Nat.le_of_ble_eq_true rfl⟩) rfl rfl (Nat.le_of_ble_eq_true rfl) dX0_addCall_47 ?_
          rintro _ rfl
          refine x_iand (z := nI (bz &&& (1 * 2 ^ ja ||| 1 * 2 ^ jb))) (pc := 50) F dX0_addCall_50 (nx_and bz (1 * 2 ^ ja ||| 1 * 2 ^ jb)) ?_
          refine x_ifN_eq (tgt := 57) (pc := 51) F dX0_addCall_51 (by decide) (and_pair_lt _ hbz) (fun hc_51 => ?_) (fun hc_51 => ?_)
          · have hbz9 : ¬ (busyB G ja = true ∨ busyB G jb = true) := by
              have hz := (and_pair bz ja jb).mp hc_51
              rw [hbt ja (by omega), hbt jb (by omega)] at hz
              rw [hz.1, hz.2]; decide
            refine x_aload_n (pc := 57) F dX0_addCall_57 0 rfl rfl ?_
            refine x_iload_n (pc := 58) F dX0_addCall_58 3 rfl rfl ?_
            refine x_calli (w := wX) (ty := tX) (pc := 59) F hK wX_in [.int (nI w)] [] (c_X0_modeAccepts l G L w (by omega) (by omega)) (cwV 1 F.2.2.2.2 gX0_addCall_X0_modeAccepts rfl rfl rfl (by decide +kernel) ⟨Nat.le_of_ble_eq_true rfl, Nat.le_of_ble_eq_true rfl⟩) rfl rfl rfl rfl (Nat.le_of_ble_eq_true rfl) dX0_addCall_59 ?_
            rintro _ _ ⟨rfl, rfl⟩
            refine x_ifB_ne (tgt := 68) (pc := 62) F dX0_addCall_62 (by decide) (fun hc_62 => ?_) (fun hc_62 => ?_)
            · refine x_aload_n (pc := 68) F dX0_addCall_68 0 rfl rfl ?_
              refine gX_callTotal (v := G 4 0) (pc := 69) F hK hin hm_callTotal rfl dX0_addCall_69 ?_
              refine x_bipush (v := nI 28) (pc := 72) F dX0_addCall_72 (by decide) ?_
              refine x_icmpN_lt (tgt := 80) (pc := 74) F dX0_addCall_74 (by decide) (by omega) (by decide) (fun hc_74 => ?_) (fun hc_74 => ?_)
              · refine x_aload_n (pc := 80) F dX0_addCall_80 0 rfl rfl ?_
                refine x_iload_n (pc := 81) F dX0_addCall_81 1 rfl rfl ?_
                refine x_iload_n (pc := 82) F dX0_addCall_82 2 rfl rfl ?_
                refine x_iload_n (pc := 83) F dX0_addCall_83 3 rfl rfl ?_
                refine x_callv (w := wX) (ty := tX) (pc := 84) F hK wX_in [.int (nI ja), .int (nI jb), .int (nI w)] [] (c_X0_putCall l G L ja jb w (by omega) (by have hq_4 : G 4 0 = G 4 0 := rfl; omega) (by have hq_3 : G 3 0 = G 3 0 := rfl; omega)) (cwV 3 F.2.2.2.2 gX0_addCall_X0_putCall rfl rfl rfl (by decide +kernel) ⟨Nat.le_of_ble_eq_true rfl, Nat.le_of_ble_eq_true rfl⟩) rfl rfl rfl rfl (Nat.le_of_ble_eq_true rfl) dX0_addCall_84 ?_
                rintro _ rfl
                refine x_aload_n (pc := 87) F dX0_addCall_87 0 rfl rfl ?_
                refine gX_callTotal (v := G 4 0 + 1) (pc := 88) F hK hin hm_callTotal rfl dX0_addCall_88 ?_
                refine x_iconst (v := nI 1) (pc := 91) F dX0_addCall_91 (by decide) ?_
                refine x_isub (z := nI ((G 4 0 + 1) - 1)) (pc := 92) F dX0_addCall_92 (pk_sub (by omega)) ?_
                exact x_reti (w := wX) (ty := tX) (pc := 93) F hK hr hlk hQ0 dX0_addCall_93 (⟨by rw [sg_addCall, if_pos (by unfold inR; omega), toNat_nI (by omega), toNat_nI (by omega), if_pos hc_25, if_neg hc_35, if_neg hbz9, if_pos hc_62, if_pos (by omega)], by rw [sp_addCall, if_pos (by unfold inR; omega), toNat_nI (by omega), toNat_nI (by omega), if_pos hc_25, if_neg hc_35, if_neg hbz9, if_pos hc_62, if_pos (by omega), Nat.add_sub_cancel]⟩)
              · refine x_bipush (v := -13) (pc := 77) F dX0_addCall_77 (by decide) ?_
                exact x_reti (w := wX) (ty := tX) (pc := 79) F hK hr hlk hQ0 dX0_addCall_79 (⟨by rw [sg_addCall, if_pos (by unfold inR; omega), toNat_nI (by omega), toNat_nI (by omega), if_pos hc_25, if_neg hc_35, if_neg hbz9, if_pos hc_62, if_neg (by omega)], by rw [sp_addCall, if_pos (by unfold inR; omega), toNat_nI (by omega), toNat_nI (by omega), if_pos hc_25, if_neg hc_35, if_neg hbz9, if_pos hc_62, if_neg (by omega)]⟩)
            · refine x_bipush (v := -11) (pc := 65) F dX0_addCall_65 (by decide) ?_
              exact x_reti (w := wX) (ty := tX) (pc := 67) F hK hr hlk hQ0 dX0_addCall_67 (⟨by rw [sg_addCall, if_pos (by unfold inR; omega), toNat_nI (by omega), toNat_nI (by omega), if_pos hc_25, if_neg hc_35, if_neg hbz9, if_neg hc_62], by rw [sp_addCall, if_pos (by unfold inR; omega), toNat_nI (by omega), toNat_nI (by omega), if_pos hc_25, if_neg hc_35, if_neg hbz9, if_neg hc_62]⟩)
          · have hbz9 : busyB G ja = true ∨ busyB G jb = true := by
              rw [← hbt ja (by omega), ← hbt jb (by omega)]
              apply Decidable.byContradiction
              intro hz
              rw [not_or, Bool.not_eq_true, Bool.not_eq_true] at hz
              exact hc_51 ((and_pair bz ja jb).mpr hz)
            refine x_bipush (v := -9) (pc := 54) F dX0_addCall_54 (by decide) ?_
            exact x_reti (w := wX) (ty := tX) (pc := 56) F hK hr hlk hQ0 dX0_addCall_56 (⟨by rw [sg_addCall, if_pos (by unfold inR; omega), toNat_nI (by omega), toNat_nI (by omega), if_pos hc_25, if_neg hc_35, if_pos hbz9], by rw [sp_addCall, if_pos (by unfold inR; omega), toNat_nI (by omega), toNat_nI (by omega), if_pos hc_25, if_neg hc_35, if_pos hbz9]⟩)
        · refine x_bipush (v := -8) (pc := 38) F dX0_addCall_38 (by decide) ?_
          exact x_reti (w := wX) (ty := tX) (pc := 40) F hK hr hlk hQ0 dX0_addCall_40 (⟨by rw [sg_addCall, if_pos (by unfold inR; omega), toNat_nI (by omega), toNat_nI (by omega), if_pos hc_25, if_pos hc_35], by rw [sp_addCall, if_pos (by unfold inR; omega), toNat_nI (by omega), toNat_nI (by omega), if_pos hc_25, if_pos hc_35]⟩)
      · refine x_bipush (v := -10) (pc := 28) F dX0_addCall_28 (by decide) ?_
        exact x_reti (w := wX) (ty := tX) (pc := 30) F hK hr hlk hQ0 dX0_addCall_30 (⟨by rw [sg_addCall, if_pos (by unfold inR; omega), toNat_nI (by omega), toNat_nI (by omega), if_neg hc_25], by rw [sp_addCall, if_pos (by unfold inR; omega), toNat_nI (by omega), toNat_nI (by omega), if_neg hc_25]⟩)
    · refine x_bipush (v := -6) (pc := 16) F dX0_addCall_16 (by decide) ?_
      exact x_reti (w := wX) (ty := tX) (pc := 18) F hK hr hlk hQ0 dX0_addCall_18 (⟨by rw [sg_addCall, if_neg (by unfold inR; omega)], by rw [sp_addCall, if_neg (by unfold inR; omega)]⟩)
set_option maxHeartbeats 4000000 in
set_option maxRecDepth 100000 in
theorem c_X0_removeLastRound (l : Launch) (G : GS) (L : Nat → Nat) (hG : ok G) : MCi wX tX l yX0_removeLastRound wsX0_removeLastRound ({ frames := 0, cells := 0, slots := 0, locals := 0 }) [] (G, L) (fun r u => u = (sg_remove G, L) ∧ r = sp_remove G) := by
  have hG0 := hG
  obtain ⟨b1, b2, b3, b4, b5, b6, b7, b8, b9, b10, b11⟩ := hG0
  refine x_starti (cc := cX0_removeLastRound) (maxL := 1) (ret := (some .int)) (own := RX0) (by decide) rfl rfl (fun _ => Nat.le_of_ble_eq_true rfl) ?_
  intro p e s m args below meth c D h q cs F hK hr hlk Q0 hQ0
  refine x_lv (lv' := [(0, .ref h)]) [0] rfl ?_
  have hin : ∀ w ∈ wsX00, w ∈ wsX0_removeLastRound := by decide +kernel
  have hm_roundTotal : Cond.fieldLink RX0 55 "GossipSchedule" "roundTotal" "I" ∈ wsX0_removeLastRound := by decide +kernel
  have hm_callTotal : Cond.fieldLink RX0 70 "GossipSchedule" "callTotal" "I" ∈ wsX0_removeLastRound := by decide +kernel
  have hm_roundOf : Cond.fieldLink RX0 19 "GossipSchedule" "roundOf" "[I" ∈ wsX0_removeLastRound := by decide +kernel
  refine x_aload_n (pc := 0) F dX0_removeLastRound_0 0 rfl rfl ?_
  refine gX_roundTotal (v := G 3 0) (pc := 1) F hK hin hm_roundTotal rfl dX0_removeLastRound_1 ?_
  refine x_ifN_ne (tgt := 10) (pc := 4) F dX0_removeLastRound_4 (by decide) (by omega) (fun hc_4 => ?_) (fun hc_4 => ?_)
  · refine x_aload_n (pc := 10) F dX0_removeLastRound_10 0 rfl rfl ?_
    refine x_dup (pc := 11) F dX0_removeLastRound_11 rfl ?_
    refine gX_roundTotal (v := G 3 0) (pc := 12) F hK hin hm_roundTotal rfl dX0_removeLastRound_12 ?_
    refine x_iconst (v := nI 1) (pc := 15) F dX0_removeLastRound_15 (by decide) ?_
    refine x_isub (z := nI (G 3 0 - 1)) (pc := 16) F dX0_removeLastRound_16 (pk_sub (by omega)) ?_
    refine pX_roundTotal (pc := 17) F hK hin hm_roundTotal dX0_removeLastRound_17 ?_
    refine x_I (congrArg (fun g => IC wX D h q cs s (g, L)) (up_id (up G 3 0 (G 3 0 - 1)) 4 0).symm) ?_
    have cut_20 : ∀ (fu : Nat) (cz : Nat), (cz ≤ G 4 0) → (cutN G (G 3 0 - 1) cz = cutN G (G 3 0 - 1) (G 4 0)) → (cz) < fu → V p l e ({ frames := 0, cells := 0, slots := 0, locals := 0 }) s m args below meth c 1 0 0 Q0 (IC wX D h q cs s (up (up G 3 0 (G 3 0 - 1)) 4 0 cz, L)) 20 [(0, .ref h)] [] := by
      intro fu
      induction fu with
      | zero => intro cz hc hcz hfu; exact absurd hfu (Nat.not_lt_zero _)
      | succ fu ih_20 =>
        intro cz hc hcz hfu
        refine x_aload_n (pc := 20) F dX0_removeLastRound_20 0 rfl rfl ?_
        refine gX_callTotal (v := cz) (pc := 21) F hK hin hm_callTotal rfl dX0_removeLastRound_21 ?_
        refine x_ifN_le (tgt := 58) (pc := 24) F dX0_removeLastRound_24 (by decide) (by omega) (fun hc_24 => ?_) (fun hc_24 => ?_)
        · refine x_aload_n (pc := 58) F dX0_removeLastRound_58 0 rfl rfl ?_
          refine gX_roundTotal (v := G 3 0 - 1) (pc := 59) F hK hin hm_roundTotal rfl dX0_removeLastRound_59 ?_
          exact x_reti (w := wX) (ty := tX) (pc := 62) F hK hr hlk hQ0 dX0_removeLastRound_62 (⟨by rw [sg_remove, if_neg (by omega), (show cz = cutN G (G 3 0 - 1) (G 4 0) from by rw [← hcz, show cz = 0 by omega]; rfl)], by rw [sp_remove, if_neg (by omega)]⟩)
        · have hj := b8 (cz - 1) (by omega)
          refine x_aload_n (pc := 27) F dX0_removeLastRound_27 0 rfl rfl ?_
          refine gX_roundOf (pc := 28) F hK hin hm_roundOf dX0_removeLastRound_28 ?_
          refine x_aload_n (pc := 31) F dX0_removeLastRound_31 0 rfl rfl ?_
          refine gX_callTotal (v := cz) (pc := 32) F hK hin hm_callTotal rfl dX0_removeLastRound_32 ?_
          refine x_iconst (v := nI 1) (pc := 35) F dX0_removeLastRound_35 (by decide) ?_
          refine x_isub (z := nI (cz - 1)) (pc := 36) F dX0_removeLastRound_36 (pk_sub (by omega)) ?_
          refine lX_roundOf (v := G 5 (cz - 1)) (pc := 37) F hK dX0_removeLastRound_37 (by omega) rfl ?_
          refine x_aload_n (pc := 38) F dX0_removeLastRound_38 0 rfl rfl ?_
          refine gX_roundTotal (v := G 3 0 - 1) (pc := 39) F hK hin hm_roundTotal rfl dX0_removeLastRound_39 ?_
          refine x_icmpN_lt (tgt := 58) (pc := 42) F dX0_removeLastRound_42 (by decide) (by omega) (by omega) (fun hc_42 => ?_) (fun hc_42 => ?_)
          · refine x_aload_n (pc := 58) F dX0_removeLastRound_58 0 rfl rfl ?_
            refine gX_roundTotal (v := G 3 0 - 1) (pc := 59) F hK hin hm_roundTotal rfl dX0_removeLastRound_59 ?_
            exact x_reti (w := wX) (ty := tX) (pc := 62) F hK hr hlk hQ0 dX0_removeLastRound_62 (⟨by rw [sg_remove, if_neg (by omega), (show cz = cutN G (G 3 0 - 1) (G 4 0) from by rw [← hcz, cutN_f (by omega) (by omega)])], by rw [sp_remove, if_neg (by omega)]⟩)
          · refine x_aload_n (pc := 45) F dX0_removeLastRound_45 0 rfl rfl ?_
            refine x_dup (pc := 46) F dX0_removeLastRound_46 rfl ?_
            refine gX_callTotal (v := cz) (pc := 47) F hK hin hm_callTotal rfl dX0_removeLastRound_47 ?_
            refine x_iconst (v := nI 1) (pc := 50) F dX0_removeLastRound_50 (by decide) ?_
            refine x_isub (z := nI (cz - 1)) (pc := 51) F dX0_removeLastRound_51 (pk_sub (by omega)) ?_
            refine pX_callTotal (pc := 52) F hK hin hm_callTotal dX0_removeLastRound_52 ?_
            refine x_goto (tgt := 20) (pc := 55) F dX0_removeLastRound_55 (by decide) ?_
            refine x_I (congrArg (fun g => IC wX D h q cs s (g, L)) (up_up _ 4 0 _ _)) ?_
            refine x_lv [0] rfl ?_
            exact ih_20 (cz - 1) (by omega) ((cutN_t (by omega) (by omega)).symm.trans hcz) (by omega)
    refine x_lv [0] rfl ?_
    exact cut_20 (((G 4 0)) + 1) (G 4 0) (Nat.le_refl _) rfl (Nat.lt_succ_self _)
  · refine x_bipush (v := -8) (pc := 7) F dX0_removeLastRound_7 (by decide) ?_
    exact x_reti (w := wX) (ty := tX) (pc := 9) F hK hr hlk hQ0 dX0_removeLastRound_9 (⟨by rw [sg_remove, if_pos (by omega)], by rw [sp_remove, if_pos (by omega)]⟩)
set_option maxHeartbeats 4000000 in
set_option maxRecDepth 100000 in
theorem c_X0_append (l : Launch) (G : GS) (L : Nat → Nat) (x : Int32) (hG : ok G) : MCi wX tX l yX0_append wsX0_append ({ frames := 0, cells := 0, slots := 0, locals := 0 }) [.int (x)] (G, L) (fun r u => u = (sg_append G x, L) ∧ r = sp_append G x) := by
  have hG0 := hG
  obtain ⟨b1, b2, b3, b4, b5, b6, b7, b8, b9, b10, b11⟩ := hG0
  refine x_starti (cc := cX0_append) (maxL := 2) (ret := (some .int)) (own := RX0) (by decide) rfl rfl (fun _ => Nat.le_of_ble_eq_true rfl) ?_
  intro p e s m args below meth c D h q cs F hK hr hlk Q0 hQ0
  refine x_lv (lv' := [(0, .ref h), (1, .int (x))]) [0, 1] rfl ?_
  have hin : ∀ w ∈ wsX00, w ∈ wsX0_append := by decide +kernel
  have hm_inputLength : Cond.fieldLink RX0 77 "GossipSchedule" "inputLength" "I" ∈ wsX0_append := by decide +kernel
  have hm_input : Cond.fieldLink RX0 33 "GossipSchedule" "input" "[I" ∈ wsX0_append := by decide +kernel
  refine x_iload_n (pc := 0) F dX0_append_0 1 rfl rfl ?_
  refine x_bipush (v := nI 32) (pc := 1) F dX0_append_1 (by decide) ?_
  refine x_icmpT_lt (a := (x).toInt) (b := ((32 : Nat) : Int)) (tgt := 12) (pc := 3) F dX0_append_3 (by decide) rfl (nI_toInt (by omega)) (fun hc_3 => ?_) (fun hc_3 => ?_)
  · refine x_bipush (v := -2) (pc := 12) F dX0_append_12 (by decide) ?_
    exact x_reti (w := wX) (ty := tX) (pc := 14) F hK hr hlk hQ0 dX0_append_14 (⟨by rw [sg_append, if_neg (by omega)], by rw [sp_append, if_neg (by omega)]⟩)
  · refine x_iload_n (pc := 6) F dX0_append_6 1 rfl rfl ?_
    refine x_bipush (v := nI 126) (pc := 7) F dX0_append_7 (by decide) ?_
    refine x_icmpT_le (a := (x).toInt) (b := ((126 : Nat) : Int)) (tgt := 15) (pc := 9) F dX0_append_9 (by decide) rfl (nI_toInt (by omega)) (fun hc_9 => ?_) (fun hc_9 => ?_)
    · obtain ⟨ja, h_ja, rfl⟩ := nI_ofR (x := x) (n := 127) (by omega) (by omega)
      have e_ja : (nI ja).toInt = (ja : Int) := nI_toInt (by omega)
      refine x_aload_n (pc := 15) F dX0_append_15 0 rfl rfl ?_
      refine gX_inputLength (v := G 10 0) (pc := 16) F hK hin hm_inputLength rfl dX0_append_16 ?_
      refine x_bipush (v := nI 59) (pc := 19) F dX0_append_19 (by decide) ?_
      refine x_icmpN_lt (tgt := 27) (pc := 21) F dX0_append_21 (by decide) (by omega) (by decide) (fun hc_21 => ?_) (fun hc_21 => ?_)
      · refine x_aload_n (pc := 27) F dX0_append_27 0 rfl rfl ?_
        refine gX_input (pc := 28) F hK hin hm_input dX0_append_28 ?_
        refine x_aload_n (pc := 31) F dX0_append_31 0 rfl rfl ?_
        refine gX_inputLength (v := G 10 0) (pc := 32) F hK hin hm_inputLength rfl dX0_append_32 ?_
        refine x_iload_n (pc := 35) F dX0_append_35 1 rfl rfl ?_
        refine sX_input (pc := 36) F hK dX0_append_36 (by omega) ?_
        refine x_aload_n (pc := 37) F dX0_append_37 0 rfl rfl ?_
        refine x_dup (pc := 38) F dX0_append_38 rfl ?_
        refine gX_inputLength (v := G 10 0) (pc := 39) F hK hin hm_inputLength rfl dX0_append_39 ?_
        refine x_iconst (v := nI 1) (pc := 42) F dX0_append_42 (by decide) ?_
        refine x_iadd (z := nI (G 10 0 + 1)) (pc := 43) F dX0_append_43 (nI_add (G 10 0) 1) ?_
        refine pX_inputLength (pc := 44) F hK hin hm_inputLength dX0_append_44 ?_
        refine x_aload_n (pc := 47) F dX0_append_47 0 rfl rfl ?_
        refine gX_inputLength (v := G 10 0 + 1) (pc := 48) F hK hin hm_inputLength rfl dX0_append_48 ?_
        exact x_reti (w := wX) (ty := tX) (pc := 51) F hK hr hlk hQ0 dX0_append_51 (⟨by rw [sg_append, if_pos (by omega), if_pos (by omega), toNat_nI (by omega)], by rw [sp_append, if_pos (by omega), if_pos (by omega)]⟩)
      · refine x_bipush (v := -3) (pc := 24) F dX0_append_24 (by decide) ?_
        exact x_reti (w := wX) (ty := tX) (pc := 26) F hK hr hlk hQ0 dX0_append_26 (⟨by rw [sg_append, if_pos (by omega), if_neg (by omega)], by rw [sp_append, if_pos (by omega), if_neg (by omega)]⟩)
    · refine x_bipush (v := -2) (pc := 12) F dX0_append_12 (by decide) ?_
      exact x_reti (w := wX) (ty := tX) (pc := 14) F hK hr hlk hQ0 dX0_append_14 (⟨by rw [sg_append, if_neg (by omega)], by rw [sp_append, if_neg (by omega)]⟩)
set_option maxHeartbeats 4000000 in
set_option maxRecDepth 100000 in
theorem c_X0_clearInput (l : Launch) (G : GS) (L : Nat → Nat) : MCi wX tX l yX0_clearInput wsX0_clearInput ({ frames := 0, cells := 0, slots := 0, locals := 0 }) [] (G, L) (fun r u => u = (up G 10 0 0, L) ∧ r = nI (G 10 0)) := by
  refine x_starti (cc := cX0_clearInput) (maxL := 2) (ret := (some .int)) (own := RX0) (by decide) rfl rfl (fun _ => Nat.le_of_ble_eq_true rfl) ?_
  intro p e s m args below meth c D h q cs F hK hr hlk Q0 hQ0
  refine x_lv (lv' := [(0, .ref h)]) [0] rfl ?_
  have hin : ∀ w ∈ wsX00, w ∈ wsX0_clearInput := by decide +kernel
  have hm_inputLength : Cond.fieldLink RX0 77 "GossipSchedule" "inputLength" "I" ∈ wsX0_clearInput := by decide +kernel
  refine x_aload_n (pc := 0) F dX0_clearInput_0 0 rfl rfl ?_
  refine gX_inputLength (v := G 10 0) (pc := 1) F hK hin hm_inputLength rfl dX0_clearInput_1 ?_
  refine x_istore_n (lv' := [(0, .ref h), (1, .int (nI (G 10 0)))]) (pc := 4) F dX0_clearInput_4 rfl (by decide) [1, 0] rfl ?_
  refine x_aload_n (pc := 5) F dX0_clearInput_5 0 rfl rfl ?_
  refine x_iconst (v := nI 0) (pc := 6) F dX0_clearInput_6 (by decide) ?_
  refine pX_inputLength (pc := 7) F hK hin hm_inputLength dX0_clearInput_7 ?_
  refine x_iload_n (pc := 10) F dX0_clearInput_10 1 rfl rfl ?_
  exact x_reti (w := wX) (ty := tX) (pc := 11) F hK hr hlk hQ0 dX0_clearInput_11 (⟨rfl, rfl⟩)
set_option maxHeartbeats 4000000 in
set_option maxRecDepth 100000 in
theorem c_X0_isPersonDigit (l : Launch) (G : GS) (L : Nat → Nat) (v : Nat) (hv : v ≤ 126) (h8 : G 0 0 ≤ 8) : MCi wX tX l yX0_isPersonDigit wsX0_isPersonDigit ({ frames := 1, cells := 0, slots := 0, locals := 21 }) [.int (nI v)] (G, L) (fun r u => u = (G, L) ∧ r = nI (bN (dig G v))) := by
  refine x_starti (cc := cX0_isPersonDigit) (maxL := 2) (ret := (some .boolean)) (own := RX0) (by decide) rfl rfl (fun _ => Nat.le_of_ble_eq_true rfl) ?_
  intro p e s m args below meth c D h q cs F hK hr hlk Q0 hQ0
  refine x_lv (lv' := [(0, .ref h), (1, .int (nI v))]) [0, 1] rfl ?_
  refine x_aload_n (pc := 0) F dX0_isPersonDigit_0 0 rfl rfl ?_
  refine x_iload_n (pc := 1) F dX0_isPersonDigit_1 1 rfl rfl ?_
  refine x_bipush (v := nI 48) (pc := 2) F dX0_isPersonDigit_2 (by decide) ?_
  refine x_isub (pc := 4) F dX0_isPersonDigit_4 rfl ?_
  refine x_calli (w := wX) (ty := tX) (pc := 5) F hK wX_in [.int (nI v - nI 48)] [] (c_X0_personExists l G L (nI v - nI 48) ((v : Int) - 48) (pk_sub_toInt (by omega) (by omega)) (by omega)) (cwV 1 F.2.2.2.2 gX0_isPersonDigit_X0_personExists rfl rfl rfl (by decide +kernel) ⟨Nat.le_of_ble_eq_true rfl, Nat.le_of_ble_eq_true rfl⟩) rfl rfl rfl rfl (Nat.le_of_ble_eq_true rfl) dX0_isPersonDigit_5 ?_
  rintro _ _ ⟨rfl, rfl⟩
  exact x_retz (w := wX) (ty := tX) (pc := 8) F hK hr hlk hQ0 (nar_z _ (bN_lt _)) dX0_isPersonDigit_8 (⟨rfl, congrArg nI (bN_c (by omega))⟩)
set_option maxHeartbeats 4000000 in
set_option maxRecDepth 100000 in
theorem c_X0_characterFits (l : Launch) (G : GS) (L : Nat → Nat) (i : Nat) (hi : i < G 10 0) (hG : ok G) : MCi wX tX l yX0_characterFits wsX0_characterFits ({ frames := 2, cells := 0, slots := 0, locals := 42 }) [.int (nI i)] (G, L) (fun r u => u = (G, L) ∧ r = nI (bN (fit G i))) := by
  have hG0 := hG
  obtain ⟨b1, b2, b3, b4, b5, b6, b7, b8, b9, b10, b11⟩ := hG0
  have hv0 := b10 i hi
  have hv2 := b10 (i - 2) (by omega)
  refine x_starti (cc := cX0_characterFits) (maxL := 3) (ret := (some .boolean)) (own := RX0) (by decide) rfl rfl (fun _ => Nat.le_of_ble_eq_true rfl) ?_
  intro p e s m args below meth c D h q cs F hK hr hlk Q0 hQ0
  refine x_lv (lv' := [(0, .ref h), (1, .int (nI i))]) [0, 1] rfl ?_
  have hin : ∀ w ∈ wsX00, w ∈ wsX0_characterFits := by decide +kernel
  have hm_input : Cond.fieldLink RX0 33 "GossipSchedule" "input" "[I" ∈ wsX0_characterFits := by decide +kernel
  refine x_aload_n (pc := 0) F dX0_characterFits_0 0 rfl rfl ?_
  refine gX_input (pc := 1) F hK hin hm_input dX0_characterFits_1 ?_
  refine x_iload_n (pc := 4) F dX0_characterFits_4 1 rfl rfl ?_
  refine lX_input (v := G 9 i) (pc := 5) F hK dX0_characterFits_5 (by omega) rfl ?_
  refine x_istore_n (lv' := [(0, .ref h), (1, .int (nI i)), (2, .int (nI (G 9 i)))]) (pc := 6) F dX0_characterFits_6 rfl (by decide) [1, 2, 0] rfl ?_
  refine x_iload_n (pc := 7) F dX0_characterFits_7 1 rfl rfl ?_
  refine x_iconst (v := nI 4) (pc := 8) F dX0_characterFits_8 (by decide) ?_
  refine x_irem (z := nI (i % 4)) (pc := 9) F dX0_characterFits_9 (by decide) (pk_rem (by omega) (by decide) (by decide)) ?_
  rcases (show (i % 4) = 0 ∨ (i % 4) = 1 ∨ (i % 4) = 2 ∨ 2 < (i % 4) by omega) with hsw | hsw | hsw | hsw
  · refine x_tableN (k := 0) (tgt := 36) (pc := 10) F dX0_characterFits_10 hsw (by decide) (by decide) (by decide) rfl (by decide) ?_
    refine x_aload_n (pc := 36) F dX0_characterFits_36 0 rfl rfl ?_
    refine x_iload_n (pc := 37) F dX0_characterFits_37 2 rfl rfl ?_
    refine x_calli (w := wX) (ty := tX) (pc := 38) F hK wX_in [.int (nI (G 9 i))] [] (c_X0_isPersonDigit l G L (G 9 i) (by omega) (by omega)) (cwV 1 F.2.2.2.2 gX0_characterFits_X0_isPersonDigit rfl rfl rfl (by decide +kernel) ⟨Nat.le_of_ble_eq_true rfl, Nat.le_of_ble_eq_true rfl⟩) rfl rfl rfl rfl (Nat.le_of_ble_eq_true rfl) dX0_characterFits_38 ?_
    rintro _ _ ⟨rfl, rfl⟩
    exact x_retz (w := wX) (ty := tX) (pc := 41) F hK hr hlk hQ0 (nar_z _ (bN_lt _)) dX0_characterFits_41 (⟨rfl, congrArg nI (bN_c (by omega))⟩)
  · refine x_tableN (k := 1) (tgt := 42) (pc := 10) F dX0_characterFits_10 hsw (by decide) (by decide) (by decide) rfl (by decide) ?_
    refine x_iload_n (pc := 42) F dX0_characterFits_42 2 rfl rfl ?_
    refine x_bipush (v := nI 45) (pc := 43) F dX0_characterFits_43 (by decide) ?_
    refine x_icmpN_eq (tgt := 54) (pc := 45) F dX0_characterFits_45 (by decide) (by omega) (by decide) (fun hc_45 => ?_) (fun hc_45 => ?_)
    · refine x_iconst (v := nI 1) (pc := 54) F dX0_characterFits_54 (by decide) ?_
      refine x_goto (tgt := 59) (pc := 55) F dX0_characterFits_55 (by decide) ?_
      exact x_retz (w := wX) (ty := tX) (pc := 59) F hK hr hlk hQ0 (nar_z _ (by omega)) dX0_characterFits_59 (⟨rfl, congrArg nI (bN_t (by omega)).symm⟩)
    · refine x_iload_n (pc := 48) F dX0_characterFits_48 2 rfl rfl ?_
      refine x_bipush (v := nI 62) (pc := 49) F dX0_characterFits_49 (by decide) ?_
      refine x_icmpN_ne (tgt := 58) (pc := 51) F dX0_characterFits_51 (by decide) (by omega) (by decide) (fun hc_51 => ?_) (fun hc_51 => ?_)
      · refine x_iconst (v := nI 0) (pc := 58) F dX0_characterFits_58 (by decide) ?_
        exact x_retz (w := wX) (ty := tX) (pc := 59) F hK hr hlk hQ0 (nar_z _ (by omega)) dX0_characterFits_59 (⟨rfl, congrArg nI (bN_f (by omega)).symm⟩)
      · refine x_iconst (v := nI 1) (pc := 54) F dX0_characterFits_54 (by decide) ?_
        refine x_goto (tgt := 59) (pc := 55) F dX0_characterFits_55 (by decide) ?_
        exact x_retz (w := wX) (ty := tX) (pc := 59) F hK hr hlk hQ0 (nar_z _ (by omega)) dX0_characterFits_59 (⟨rfl, congrArg nI (bN_t (by omega)).symm⟩)
  · refine x_tableN (k := 2) (tgt := 60) (pc := 10) F dX0_characterFits_10 hsw (by decide) (by decide) (by decide) rfl (by decide) ?_
    refine x_aload_n (pc := 60) F dX0_characterFits_60 0 rfl rfl ?_
    refine x_iload_n (pc := 61) F dX0_characterFits_61 2 rfl rfl ?_
    refine x_calli (w := wX) (ty := tX) (pc := 62) F hK wX_in [.int (nI (G 9 i))] [] (c_X0_isPersonDigit l G L (G 9 i) (by omega) (by omega)) (cwV 1 F.2.2.2.2 gX0_characterFits_X0_isPersonDigit rfl rfl rfl (by decide +kernel) ⟨Nat.le_of_ble_eq_true rfl, Nat.le_of_ble_eq_true rfl⟩) rfl rfl rfl rfl (Nat.le_of_ble_eq_true rfl) dX0_characterFits_62 ?_
    rintro _ _ ⟨rfl, rfl⟩
    refine x_ifB_eq (tgt := 84) (pc := 65) F dX0_characterFits_65 (by decide) (fun hc_65 => ?_) (fun hc_65 => ?_)
    · refine x_iconst (v := nI 0) (pc := 84) F dX0_characterFits_84 (by decide) ?_
      exact x_retz (w := wX) (ty := tX) (pc := 85) F hK hr hlk hQ0 (nar_z _ (by omega)) dX0_characterFits_85 (⟨rfl, congrArg nI (bN_f (by omega)).symm⟩)
    · refine x_iload_n (pc := 68) F dX0_characterFits_68 2 rfl rfl ?_
      refine x_aload_n (pc := 69) F dX0_characterFits_69 0 rfl rfl ?_
      refine gX_input (pc := 70) F hK hin hm_input dX0_characterFits_70 ?_
      refine x_iload_n (pc := 73) F dX0_characterFits_73 1 rfl rfl ?_
      refine x_iconst (v := nI 2) (pc := 74) F dX0_characterFits_74 (by decide) ?_
      refine x_isub (z := nI (i - 2)) (pc := 75) F dX0_characterFits_75 (pk_sub (by omega)) ?_
      refine lX_input (v := G 9 (i - 2)) (pc := 76) F hK dX0_characterFits_76 (by omega) rfl ?_
      refine x_icmpN_eq (tgt := 84) (pc := 77) F dX0_characterFits_77 (by decide) (by omega) (by omega) (fun hc_77 => ?_) (fun hc_77 => ?_)
      · refine x_iconst (v := nI 0) (pc := 84) F dX0_characterFits_84 (by decide) ?_
        exact x_retz (w := wX) (ty := tX) (pc := 85) F hK hr hlk hQ0 (nar_z _ (by omega)) dX0_characterFits_85 (⟨rfl, congrArg nI (bN_f (by omega)).symm⟩)
      · refine x_iconst (v := nI 1) (pc := 80) F dX0_characterFits_80 (by decide) ?_
        refine x_goto (tgt := 85) (pc := 81) F dX0_characterFits_81 (by decide) ?_
        exact x_retz (w := wX) (ty := tX) (pc := 85) F hK hr hlk hQ0 (nar_z _ (by omega)) dX0_characterFits_85 (⟨rfl, congrArg nI (bN_t (by omega)).symm⟩)
  · refine x_tableNO (tgt := 86) (pc := 10) F dX0_characterFits_10 (by omega) (Or.inr (by omega)) (by decide) ?_
    refine x_iload_n (pc := 86) F dX0_characterFits_86 2 rfl rfl ?_
    refine x_bipush (v := nI 44) (pc := 87) F dX0_characterFits_87 (by decide) ?_
    refine x_icmpN_eq (tgt := 98) (pc := 89) F dX0_characterFits_89 (by decide) (by omega) (by decide) (fun hc_89 => ?_) (fun hc_89 => ?_)
    · refine x_iconst (v := nI 1) (pc := 98) F dX0_characterFits_98 (by decide) ?_
      refine x_goto (tgt := 103) (pc := 99) F dX0_characterFits_99 (by decide) ?_
      exact x_retz (w := wX) (ty := tX) (pc := 103) F hK hr hlk hQ0 (nar_z _ (by omega)) dX0_characterFits_103 (⟨rfl, congrArg nI (bN_t (by omega)).symm⟩)
    · refine x_iload_n (pc := 92) F dX0_characterFits_92 2 rfl rfl ?_
      refine x_bipush (v := nI 59) (pc := 93) F dX0_characterFits_93 (by decide) ?_
      refine x_icmpN_ne (tgt := 102) (pc := 95) F dX0_characterFits_95 (by decide) (by omega) (by decide) (fun hc_95 => ?_) (fun hc_95 => ?_)
      · refine x_iconst (v := nI 0) (pc := 102) F dX0_characterFits_102 (by decide) ?_
        exact x_retz (w := wX) (ty := tX) (pc := 103) F hK hr hlk hQ0 (nar_z _ (by omega)) dX0_characterFits_103 (⟨rfl, congrArg nI (bN_f (by omega)).symm⟩)
      · refine x_iconst (v := nI 1) (pc := 98) F dX0_characterFits_98 (by decide) ?_
        refine x_goto (tgt := 103) (pc := 99) F dX0_characterFits_99 (by decide) ?_
        exact x_retz (w := wX) (ty := tX) (pc := 103) F hK hr hlk hQ0 (nar_z _ (by omega)) dX0_characterFits_103 (⟨rfl, congrArg nI (bN_t (by omega)).symm⟩)
set_option maxHeartbeats 4000000 in
set_option maxRecDepth 100000 in
theorem c_X0_firstError (l : Launch) (G : GS) (L : Nat → Nat) (hG : ok G) : MCi wX tX l yX0_firstError wsX0_firstError ({ frames := 3, cells := 0, slots := 0, locals := 64 }) [] (G, L) (fun r u => u = (G, L) ∧ r = nI (fe G)) := by
  have hG0 := hG
  obtain ⟨b1, b2, b3, b4, b5, b6, b7, b8, b9, b10, b11⟩ := hG0
  refine x_starti (cc := cX0_firstError) (maxL := 2) (ret := (some .int)) (own := RX0) (by decide) rfl rfl (fun _ => Nat.le_of_ble_eq_true rfl) ?_
  intro p e s m args below meth c D h q cs F hK hr hlk Q0 hQ0
  refine x_lv (lv' := [(0, .ref h)]) [0] rfl ?_
  have hin : ∀ w ∈ wsX00, w ∈ wsX0_firstError := by decide +kernel
  have hm_inputLength : Cond.fieldLink RX0 77 "GossipSchedule" "inputLength" "I" ∈ wsX0_firstError := by decide +kernel
  refine x_iconst (v := nI 0) (pc := 0) F dX0_firstError_0 (by decide) ?_
  refine x_istore_n (lv' := [(0, .ref h), (1, .int (nI 0))]) (pc := 1) F dX0_firstError_1 rfl (by decide) [1, 0] rfl ?_
  have cut_2 : ∀ (fu : Nat) (i : Nat), (i ≤ G 10 0) → (feN G (G 10 0 - i) i = fe G) → (G 10 0 - i) < fu → V p l e ({ frames := 3, cells := 0, slots := 0, locals := 64 }) s m args below meth c 2 0 0 Q0 (IC wX D h q cs s (G, L)) 2 [(0, .ref h), (1, .int (nI i))] [] := by
    intro fu
    induction fu with
    | zero => intro i hi hfe hfu; exact absurd hfu (Nat.not_lt_zero _)
    | succ fu ih_2 =>
      intro i hi hfe hfu
      refine x_iload_n (pc := 2) F dX0_firstError_2 1 rfl rfl ?_
      refine x_aload_n (pc := 3) F dX0_firstError_3 0 rfl rfl ?_
      refine gX_inputLength (v := G 10 0) (pc := 4) F hK hin hm_inputLength rfl dX0_firstError_4 ?_
      refine x_icmpN_ge (tgt := 26) (pc := 7) F dX0_firstError_7 (by decide) (by omega) (by omega) (fun hc_7 => ?_) (fun hc_7 => ?_)
      · refine x_aload_n (pc := 26) F dX0_firstError_26 0 rfl rfl ?_
        refine gX_inputLength (v := G 10 0) (pc := 27) F hK hin hm_inputLength rfl dX0_firstError_27 ?_
        exact x_reti (w := wX) (ty := tX) (pc := 30) F hK hr hlk hQ0 dX0_firstError_30 (⟨rfl, congrArg nI (by rw [← hfe, show G 10 0 - i = 0 by omega]; show G 10 0 = i; omega)⟩)
      · refine x_aload_n (pc := 10) F dX0_firstError_10 0 rfl rfl ?_
        refine x_iload_n (pc := 11) F dX0_firstError_11 1 rfl rfl ?_
        refine x_calli (w := wX) (ty := tX) (pc := 12) F hK wX_in [.int (nI i)] [] (c_X0_characterFits l G L i (by omega) hG) (cwV 1 F.2.2.2.2 gX0_firstError_X0_characterFits rfl rfl rfl (by decide +kernel) ⟨Nat.le_of_ble_eq_true rfl, Nat.le_of_ble_eq_true rfl⟩) rfl rfl rfl rfl (Nat.le_of_ble_eq_true rfl) dX0_firstError_12 ?_
        rintro _ _ ⟨rfl, rfl⟩
        refine x_ifB_ne (tgt := 20) (pc := 15) F dX0_firstError_15 (by decide) (fun hc_15 => ?_) (fun hc_15 => ?_)
        · refine x_iinc (v := nI (i + 1)) (lv' := [(0, .ref h), (1, .int (nI (i + 1)))]) (pc := 20) F dX0_firstError_20 1 rfl (nx_inc (b := 1) i (by decide)) (by decide) [1, 0] rfl ?_
          refine x_goto (tgt := 2) (pc := 23) F dX0_firstError_23 (by decide) ?_
          refine x_lv [0, 1] rfl ?_
          exact ih_2 (i + 1) (by omega) (by rw [← hfe, feN_t (k := G 10 0 - i) (by omega) hc_15, Nat.sub_sub]) (by omega)
        · refine x_iload_n (pc := 18) F dX0_firstError_18 1 rfl rfl ?_
          exact x_reti (w := wX) (ty := tX) (pc := 19) F hK hr hlk hQ0 dX0_firstError_19 (⟨rfl, congrArg nI (by rw [← hfe, feN_f (by omega) hc_15])⟩)
  refine x_lv [0, 1] rfl ?_
  exact cut_2 ((G 10 0 - 0) + 1) 0 (Nat.zero_le _) rfl (Nat.lt_succ_self _)
set_option maxHeartbeats 4000000 in
set_option maxRecDepth 100000 in
theorem c_X0_inputIsWhole (l : Launch) (G : GS) (L : Nat → Nat) (hG : ok G) : MCi wX tX l yX0_inputIsWhole wsX0_inputIsWhole ({ frames := 4, cells := 0, slots := 0, locals := 85 }) [] (G, L) (fun r u => u = (G, L) ∧ r = nI (bN (whole G))) := by
  have hG0 := hG
  obtain ⟨b1, b2, b3, b4, b5, b6, b7, b8, b9, b10, b11⟩ := hG0
  have hfl := fe_le G
  refine x_starti (cc := cX0_inputIsWhole) (maxL := 1) (ret := (some .boolean)) (own := RX0) (by decide) rfl rfl (fun _ => Nat.le_of_ble_eq_true rfl) ?_
  intro p e s m args below meth c D h q cs F hK hr hlk Q0 hQ0
  refine x_lv (lv' := [(0, .ref h)]) [0] rfl ?_
  have hin : ∀ w ∈ wsX00, w ∈ wsX0_inputIsWhole := by decide +kernel
  have hm_inputLength : Cond.fieldLink RX0 77 "GossipSchedule" "inputLength" "I" ∈ wsX0_inputIsWhole := by decide +kernel
  refine x_aload_n (pc := 0) F dX0_inputIsWhole_0 0 rfl rfl ?_
  refine gX_inputLength (v := G 10 0) (pc := 1) F hK hin hm_inputLength rfl dX0_inputIsWhole_1 ?_
  refine x_iconst (v := nI 4) (pc := 4) F dX0_inputIsWhole_4 (by decide) ?_
  refine x_irem (z := nI ((G 10 0) % 4)) (pc := 5) F dX0_inputIsWhole_5 (by decide) (pk_rem (by omega) (by decide) (by decide)) ?_
  refine x_iconst (v := nI 3) (pc := 6) F dX0_inputIsWhole_6 (by decide) ?_
  refine x_icmpN_ne (tgt := 25) (pc := 7) F dX0_inputIsWhole_7 (by decide) (by omega) (by decide) (fun hc_7 => ?_) (fun hc_7 => ?_)
  · refine x_iconst (v := nI 0) (pc := 25) F dX0_inputIsWhole_25 (by decide) ?_
    exact x_retz (w := wX) (ty := tX) (pc := 26) F hK hr hlk hQ0 (nar_z _ (by omega)) dX0_inputIsWhole_26 (⟨rfl, congrArg nI (bN_f (by omega)).symm⟩)
  · refine x_aload_n (pc := 10) F dX0_inputIsWhole_10 0 rfl rfl ?_
    refine x_calli (w := wX) (ty := tX) (pc := 11) F hK wX_in [] [] (c_X0_firstError l G L hG) (cwV 0 F.2.2.2.2 gX0_inputIsWhole_X0_firstError rfl rfl rfl (by decide +kernel) ⟨Nat.le_of_ble_eq_true rfl, Nat.le_of_ble_eq_true rfl⟩) rfl rfl rfl rfl (Nat.le_of_ble_eq_true rfl) dX0_inputIsWhole_11 ?_
    rintro _ _ ⟨rfl, rfl⟩
    refine x_aload_n (pc := 14) F dX0_inputIsWhole_14 0 rfl rfl ?_
    refine gX_inputLength (v := G 10 0) (pc := 15) F hK hin hm_inputLength rfl dX0_inputIsWhole_15 ?_
    refine x_icmpN_ne (tgt := 25) (pc := 18) F dX0_inputIsWhole_18 (by decide) (by omega) (by omega) (fun hc_18 => ?_) (fun hc_18 => ?_)
    · refine x_iconst (v := nI 0) (pc := 25) F dX0_inputIsWhole_25 (by decide) ?_
      exact x_retz (w := wX) (ty := tX) (pc := 26) F hK hr hlk hQ0 (nar_z _ (by omega)) dX0_inputIsWhole_26 (⟨rfl, congrArg nI (bN_f (by omega)).symm⟩)
    · refine x_iconst (v := nI 1) (pc := 21) F dX0_inputIsWhole_21 (by decide) ?_
      refine x_goto (tgt := 26) (pc := 22) F dX0_inputIsWhole_22 (by decide) ?_
      exact x_retz (w := wX) (ty := tX) (pc := 26) F hK hr hlk hQ0 (nar_z _ (by omega)) dX0_inputIsWhole_26 (⟨rfl, congrArg nI (bN_t (by omega)).symm⟩)
set_option maxHeartbeats 4000000 in
set_option maxRecDepth 100000 in
theorem c_X0_beginsRound (l : Launch) (G : GS) (L : Nat → Nat) (i : Nat) (hi : i < 59) (hv : i ≠ 0 → G 9 (i - 1) ≤ 126) : MCi wX tX l yX0_beginsRound wsX0_beginsRound ({ frames := 0, cells := 0, slots := 0, locals := 0 }) [.int (nI i)] (G, L) (fun r u => u = (G, L) ∧ r = nI (bN (i = 0 ∨ G 9 (i - 1) = 59))) := by
  refine x_starti (cc := cX0_beginsRound) (maxL := 2) (ret := (some .boolean)) (own := RX0) (by decide) rfl rfl (fun _ => Nat.le_of_ble_eq_true rfl) ?_
  intro p e s m args below meth c D h q cs F hK hr hlk Q0 hQ0
  refine x_lv (lv' := [(0, .ref h), (1, .int (nI i))]) [0, 1] rfl ?_
  have hin : ∀ w ∈ wsX00, w ∈ wsX0_beginsRound := by decide +kernel
  have hm_input : Cond.fieldLink RX0 33 "GossipSchedule" "input" "[I" ∈ wsX0_beginsRound := by decide +kernel
  refine x_iload_n (pc := 0) F dX0_beginsRound_0 1 rfl rfl ?_
  refine x_ifN_eq (tgt := 17) (pc := 1) F dX0_beginsRound_1 (by decide) (by omega) (fun hc_1 => ?_) (fun hc_1 => ?_)
  · refine x_iconst (v := nI 1) (pc := 17) F dX0_beginsRound_17 (by decide) ?_
    refine x_goto (tgt := 22) (pc := 18) F dX0_beginsRound_18 (by decide) ?_
    exact x_retz (w := wX) (ty := tX) (pc := 22) F hK hr hlk hQ0 (nar_z _ (by omega)) dX0_beginsRound_22 (⟨rfl, congrArg nI (bN_t (by omega)).symm⟩)
  · refine x_aload_n (pc := 4) F dX0_beginsRound_4 0 rfl rfl ?_
    refine gX_input (pc := 5) F hK hin hm_input dX0_beginsRound_5 ?_
    refine x_iload_n (pc := 8) F dX0_beginsRound_8 1 rfl rfl ?_
    refine x_iconst (v := nI 1) (pc := 9) F dX0_beginsRound_9 (by decide) ?_
    refine x_isub (z := nI (i - 1)) (pc := 10) F dX0_beginsRound_10 (pk_sub (by omega)) ?_
    refine lX_input (v := G 9 (i - 1)) (pc := 11) F hK dX0_beginsRound_11 (by omega) rfl ?_
    refine x_bipush (v := nI 59) (pc := 12) F dX0_beginsRound_12 (by decide) ?_
    refine x_icmpN_ne (tgt := 21) (pc := 14) F dX0_beginsRound_14 (by decide) (by omega) (by decide) (fun hc_14 => ?_) (fun hc_14 => ?_)
    · refine x_iconst (v := nI 0) (pc := 21) F dX0_beginsRound_21 (by decide) ?_
      exact x_retz (w := wX) (ty := tX) (pc := 22) F hK hr hlk hQ0 (nar_z _ (by omega)) dX0_beginsRound_22 (⟨rfl, congrArg nI (bN_f (by omega)).symm⟩)
    · refine x_iconst (v := nI 1) (pc := 17) F dX0_beginsRound_17 (by decide) ?_
      refine x_goto (tgt := 22) (pc := 18) F dX0_beginsRound_18 (by decide) ?_
      exact x_retz (w := wX) (ty := tX) (pc := 22) F hK hr hlk hQ0 (nar_z _ (by omega)) dX0_beginsRound_22 (⟨rfl, congrArg nI (bN_t (by omega)).symm⟩)
