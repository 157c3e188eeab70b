set_option maxHeartbeats 4000000 in
set_option maxRecDepth 100000 in
theorem c_J6_bitCount_0f7a4 (l : Launch) (x : Int32) : MSi l yJ6_bitCount_0f7a4 wsJ6_bitCount_0f7a4 ({ frames := 0, cells := 0, slots := 0, locals := 0 }) [.int (x)] (fun r => r = bcI x) := by
  refine x_sstarti (cc := cJ6_bitCount_0f7a4) (maxL := 1) (ret := (some .int)) (own := RJ6) (by decide) rfl rfl (Nat.le_of_ble_eq_true rfl) ?_
  intro p e s m args below meth c D F hr hlk Q0 hQ0
  refine x_lv (lv' := [(0, .int (x))]) [0] rfl ?_
  have hk_265 : Cond.constant RJ6 265 (1431655765) ∈ wsJ6_bitCount_0f7a4 := by decide +kernel
  have hk_266 : Cond.constant RJ6 266 (858993459) ∈ wsJ6_bitCount_0f7a4 := by decide +kernel
  have hk_267 : Cond.constant RJ6 267 (252645135) ∈ wsJ6_bitCount_0f7a4 := by decide +kernel
  refine x_iload_n (pc := 0) F dJ6_bitCount_0f7a4_0 0 rfl rfl ?_
  refine x_iload_n (pc := 1) F dJ6_bitCount_0f7a4_1 0 rfl rfl ?_
  refine x_iconst (v := nI 1) (pc := 2) F dJ6_bitCount_0f7a4_2 (by decide) ?_
  refine x_iushr (pc := 3) F dJ6_bitCount_0f7a4_3 rfl ?_
  refine x_ldcw (v := nI 1431655765) (pc := 4) F dJ6_bitCount_0f7a4_4 hk_265 ?_
  refine x_iand (pc := 7) F dJ6_bitCount_0f7a4_7 rfl ?_
  refine x_isub (pc := 8) F dJ6_bitCount_0f7a4_8 rfl ?_
  refine x_istore_n (lv' := [(0, .int (x - ((bcU x (nI 1)) &&& (nI 1431655765))))]) (pc := 9) F dJ6_bitCount_0f7a4_9 rfl (by decide) [0] rfl ?_
  refine x_iload_n (pc := 10) F dJ6_bitCount_0f7a4_10 0 rfl rfl ?_
  refine x_ldcw (v := nI 858993459) (pc := 11) F dJ6_bitCount_0f7a4_11 hk_266 ?_
  refine x_iand (pc := 14) F dJ6_bitCount_0f7a4_14 rfl ?_
  refine x_iload_n (pc := 15) F dJ6_bitCount_0f7a4_15 0 rfl rfl ?_
  refine x_iconst (v := nI 2) (pc := 16) F dJ6_bitCount_0f7a4_16 (by decide) ?_
  refine x_iushr (pc := 17) F dJ6_bitCount_0f7a4_17 rfl ?_
  refine x_ldcw (v := nI 858993459) (pc := 18) F dJ6_bitCount_0f7a4_18 hk_266 ?_
  refine x_iand (pc := 21) F dJ6_bitCount_0f7a4_21 rfl ?_
  refine x_iadd (pc := 22) F dJ6_bitCount_0f7a4_22 rfl ?_
  refine x_istore_n (lv' := [(0, .int (((x - ((bcU x (nI 1)) &&& (nI 1431655765))) &&& (nI 858993459)) + ((bcU (x - ((bcU x (nI 1)) &&& (nI 1431655765))) (nI 2)) &&& (nI 858993459))))]) (pc := 23) F dJ6_bitCount_0f7a4_23 rfl (by decide) [0] rfl ?_
  refine x_iload_n (pc := 24) F dJ6_bitCount_0f7a4_24 0 rfl rfl ?_
  refine x_iload_n (pc := 25) F dJ6_bitCount_0f7a4_25 0 rfl rfl ?_
  refine x_iconst (v := nI 4) (pc := 26) F dJ6_bitCount_0f7a4_26 (by decide) ?_
  refine x_iushr (pc := 27) F dJ6_bitCount_0f7a4_27 rfl ?_
  refine x_iadd (pc := 28) F dJ6_bitCount_0f7a4_28 rfl ?_
  refine x_ldcw (v := nI 252645135) (pc := 29) F dJ6_bitCount_0f7a4_29 hk_267 ?_
  refine x_iand (pc := 32) F dJ6_bitCount_0f7a4_32 rfl ?_
  refine x_istore_n (lv' := [(0, .int (((((x - ((bcU x (nI 1)) &&& (nI 1431655765))) &&& (nI 858993459)) + ((bcU (x - ((bcU x (nI 1)) &&& (nI 1431655765))) (nI 2)) &&& (nI 858993459))) + (bcU (((x - ((bcU x (nI 1)) &&& (nI 1431655765))) &&& (nI 858993459)) + ((bcU (x - ((bcU x (nI 1)) &&& (nI 1431655765))) (nI 2)) &&& (nI 858993459))) (nI 4))) &&& (nI 252645135)))]) (pc := 33) F dJ6_bitCount_0f7a4_33 rfl (by decide) [0] rfl ?_
  refine x_iload_n (pc := 34) F dJ6_bitCount_0f7a4_34 0 rfl rfl ?_
  refine x_iload_n (pc := 35) F dJ6_bitCount_0f7a4_35 0 rfl rfl ?_
  refine x_bipush (v := nI 8) (pc := 36) F dJ6_bitCount_0f7a4_36 (by decide) ?_
  refine x_iushr (pc := 38) F dJ6_bitCount_0f7a4_38 rfl ?_
  refine x_iadd (pc := 39) F dJ6_bitCount_0f7a4_39 rfl ?_
  refine x_istore_n (lv' := [(0, .int ((((((x - ((bcU x (nI 1)) &&& (nI 1431655765))) &&& (nI 858993459)) + ((bcU (x - ((bcU x (nI 1)) &&& (nI 1431655765))) (nI 2)) &&& (nI 858993459))) + (bcU (((x - ((bcU x (nI 1)) &&& (nI 1431655765))) &&& (nI 858993459)) + ((bcU (x - ((bcU x (nI 1)) &&& (nI 1431655765))) (nI 2)) &&& (nI 858993459))) (nI 4))) &&& (nI 252645135)) + (bcU (((((x - ((bcU x (nI 1)) &&& (nI 1431655765))) &&& (nI 858993459)) + ((bcU (x - ((bcU x (nI 1)) &&& (nI 1431655765))) (nI 2)) &&& (nI 858993459))) + (bcU (((x - ((bcU x (nI 1)) &&& (nI 1431655765))) &&& (nI 858993459)) + ((bcU (x - ((bcU x (nI 1)) &&& (nI 1431655765))) (nI 2)) &&& (nI 858993459))) (nI 4))) &&& (nI 252645135)) (nI 8))))]) (pc := 40) F dJ6_bitCount_0f7a4_40 rfl (by decide) [0] rfl ?_
  refine x_iload_n (pc := 41) F dJ6_bitCount_0f7a4_41 0 rfl rfl ?_
  refine x_iload_n (pc := 42) F dJ6_bitCount_0f7a4_42 0 rfl rfl ?_
  refine x_bipush (v := nI 16) (pc := 43) F dJ6_bitCount_0f7a4_43 (by decide) ?_
  refine x_iushr (pc := 45) F dJ6_bitCount_0f7a4_45 rfl ?_
  refine x_iadd (pc := 46) F dJ6_bitCount_0f7a4_46 rfl ?_
  refine x_istore_n (lv' := [(0, .int (((((((x - ((bcU x (nI 1)) &&& (nI 1431655765))) &&& (nI 858993459)) + ((bcU (x - ((bcU x (nI 1)) &&& (nI 1431655765))) (nI 2)) &&& (nI 858993459))) + (bcU (((x - ((bcU x (nI 1)) &&& (nI 1431655765))) &&& (nI 858993459)) + ((bcU (x - ((bcU x (nI 1)) &&& (nI 1431655765))) (nI 2)) &&& (nI 858993459))) (nI 4))) &&& (nI 252645135)) + (bcU (((((x - ((bcU x (nI 1)) &&& (nI 1431655765))) &&& (nI 858993459)) + ((bcU (x - ((bcU x (nI 1)) &&& (nI 1431655765))) (nI 2)) &&& (nI 858993459))) + (bcU (((x - ((bcU x (nI 1)) &&& (nI 1431655765))) &&& (nI 858993459)) + ((bcU (x - ((bcU x (nI 1)) &&& (nI 1431655765))) (nI 2)) &&& (nI 858993459))) (nI 4))) &&& (nI 252645135)) (nI 8))) + (bcU ((((((x - ((bcU x (nI 1)) &&& (nI 1431655765))) &&& (nI 858993459)) + ((bcU (x - ((bcU x (nI 1)) &&& (nI 1431655765))) (nI 2)) &&& (nI 858993459))) + (bcU (((x - ((bcU x (nI 1)) &&& (nI 1431655765))) &&& (nI 858993459)) + ((bcU (x - ((bcU x (nI 1)) &&& (nI 1431655765))) (nI 2)) &&& (nI 858993459))) (nI 4))) &&& (nI 252645135)) + (bcU (((((x - ((bcU x (nI 1)) &&& (nI 1431655765))) &&& (nI 858993459)) + ((bcU (x - ((bcU x (nI 1)) &&& (nI 1431655765))) (nI 2)) &&& (nI 858993459))) + (bcU (((x - ((bcU x (nI 1)) &&& (nI 1431655765))) &&& (nI 858993459)) + ((bcU (x - ((bcU x (nI 1)) &&& (nI 1431655765))) (nI 2)) &&& (nI 858993459))) (nI 4))) &&& (nI 252645135)) (nI 8))) (nI 16))))]) (pc := 47) F dJ6_bitCount_0f7a4_47 rfl (by decide) [0] rfl ?_
  refine x_iload_n (pc := 48) F dJ6_bitCount_0f7a4_48 0 rfl rfl ?_
  refine x_bipush (v := nI 63) (pc := 49) F dJ6_bitCount_0f7a4_49 (by decide) ?_
  refine x_iand (pc := 51) F dJ6_bitCount_0f7a4_51 rfl ?_
  exact x_sreti (pc := 52) F hr hlk hQ0 dJ6_bitCount_0f7a4_52 (rfl)
set_option maxHeartbeats 4000000 in
set_option maxRecDepth 100000 in
theorem c_X0_personExists (l : Launch) (G : GS) (L : Nat → Nat) (x : Int32) (xi : Int) (hx : x.toInt = xi) (h8 : G 0 0 ≤ 8) : MCi wX tX l yX0_personExists wsX0_personExists ({ frames := 0, cells := 0, slots := 0, locals := 0 }) [.int (x)] (G, L) (fun r u => u = (G, L) ∧ r = nI (bN (0 ≤ xi ∧ xi < (G 0 0 : Int)))) := by
  refine x_starti (cc := cX0_personExists) (maxL := 2) (ret := (some .boolean)) (own := RX0) (by decide) rfl rfl (fun _ => Nat.le_of_ble_eq_true rfl) ?_
  intro p e s m args below meth c D h q cs F hK hr hlk Q0 hQ0
  refine x_lv (lv' := [(0, .ref h), (1, .int (x))]) [0, 1] rfl ?_
  have hin : ∀ w ∈ wsX00, w ∈ wsX0_personExists := by decide +kernel
  have hm_personTotal : Cond.fieldLink RX0 9 "GossipSchedule" "personTotal" "I" ∈ wsX0_personExists := by decide +kernel
  refine x_iload_n (pc := 0) F dX0_personExists_0 1 rfl rfl ?_
  refine x_ifT_lt (a := xi) (tgt := 16) (pc := 1) F dX0_personExists_1 (by decide) hx (fun hc_1 => ?_) (fun hc_1 => ?_)
  · refine x_iconst (v := nI 0) (pc := 16) F dX0_personExists_16 (by decide) ?_
    exact x_retz (w := wX) (ty := tX) (pc := 17) F hK hr hlk hQ0 (nar_z _ (by omega)) dX0_personExists_17 (⟨rfl, congrArg nI (bN_f (by omega)).symm⟩)
  · refine x_iload_n (pc := 4) F dX0_personExists_4 1 rfl rfl ?_
    refine x_aload_n (pc := 5) F dX0_personExists_5 0 rfl rfl ?_
    refine gX_personTotal (v := G 0 0) (pc := 6) F hK hin hm_personTotal rfl dX0_personExists_6 ?_
    refine x_icmpT_ge (a := xi) (b := ((G 0 0 : Nat) : Int)) (tgt := 16) (pc := 9) F dX0_personExists_9 (by decide) hx (nI_toInt (by omega)) (fun hc_9 => ?_) (fun hc_9 => ?_)
    · refine x_iconst (v := nI 0) (pc := 16) F dX0_personExists_16 (by decide) ?_
      exact x_retz (w := wX) (ty := tX) (pc := 17) F hK hr hlk hQ0 (nar_z _ (by omega)) dX0_personExists_17 (⟨rfl, congrArg nI (bN_f (by omega)).symm⟩)
    · refine x_iconst (v := nI 1) (pc := 12) F dX0_personExists_12 (by decide) ?_
      refine x_goto (tgt := 17) (pc := 13) F dX0_personExists_13 (by decide) ?_
      exact x_retz (w := wX) (ty := tX) (pc := 17) F hK hr hlk hQ0 (nar_z _ (by omega)) dX0_personExists_17 (⟨rfl, congrArg nI (bN_t (by omega)).symm⟩)
set_option maxHeartbeats 4000000 in
set_option maxRecDepth 100000 in
theorem c_X0_callExists (l : Launch) (G : GS) (L : Nat → Nat) (x : Int32) (xi : Int) (hx : x.toInt = xi) (h8 : G 4 0 ≤ 28) : MCi wX tX l yX0_callExists wsX0_callExists ({ frames := 0, cells := 0, slots := 0, locals := 0 }) [.int (x)] (G, L) (fun r u => u = (G, L) ∧ r = nI (bN (0 ≤ xi ∧ xi < (G 4 0 : Int)))) := by
  refine x_starti (cc := cX0_callExists) (maxL := 2) (ret := (some .boolean)) (own := RX0) (by decide) rfl rfl (fun _ => Nat.le_of_ble_eq_true rfl) ?_
  intro p e s m args below meth c D h q cs F hK hr hlk Q0 hQ0
  refine x_lv (lv' := [(0, .ref h), (1, .int (x))]) [0, 1] rfl ?_
  have hin : ∀ w ∈ wsX00, w ∈ wsX0_callExists := by decide +kernel
  have hm_callTotal : Cond.fieldLink RX0 70 "GossipSchedule" "callTotal" "I" ∈ wsX0_callExists := by decide +kernel
  refine x_iload_n (pc := 0) F dX0_callExists_0 1 rfl rfl ?_
  refine x_ifT_lt (a := xi) (tgt := 16) (pc := 1) F dX0_callExists_1 (by decide) hx (fun hc_1 => ?_) (fun hc_1 => ?_)
  · refine x_iconst (v := nI 0) (pc := 16) F dX0_callExists_16 (by decide) ?_
    exact x_retz (w := wX) (ty := tX) (pc := 17) F hK hr hlk hQ0 (nar_z _ (by omega)) dX0_callExists_17 (⟨rfl, congrArg nI (bN_f (by omega)).symm⟩)
  · refine x_iload_n (pc := 4) F dX0_callExists_4 1 rfl rfl ?_
    refine x_aload_n (pc := 5) F dX0_callExists_5 0 rfl rfl ?_
    refine gX_callTotal (v := G 4 0) (pc := 6) F hK hin hm_callTotal rfl dX0_callExists_6 ?_
    refine x_icmpT_ge (a := xi) (b := ((G 4 0 : Nat) : Int)) (tgt := 16) (pc := 9) F dX0_callExists_9 (by decide) hx (nI_toInt (by omega)) (fun hc_9 => ?_) (fun hc_9 => ?_)
    · refine x_iconst (v := nI 0) (pc := 16) F dX0_callExists_16 (by decide) ?_
      exact x_retz (w := wX) (ty := tX) (pc := 17) F hK hr hlk hQ0 (nar_z _ (by omega)) dX0_callExists_17 (⟨rfl, congrArg nI (bN_f (by omega)).symm⟩)
    · refine x_iconst (v := nI 1) (pc := 12) F dX0_callExists_12 (by decide) ?_
      refine x_goto (tgt := 17) (pc := 13) F dX0_callExists_13 (by decide) ?_
      exact x_retz (w := wX) (ty := tX) (pc := 17) F hK hr hlk hQ0 (nar_z _ (by omega)) dX0_callExists_17 (⟨rfl, congrArg nI (bN_t (by omega)).symm⟩)
set_option maxHeartbeats 4000000 in
set_option maxRecDepth 100000 in
theorem c_X0_personsFillCube (l : Launch) (G : GS) (L : Nat → Nat) (h2 : 2 ≤ G 0 0) (h8 : G 0 0 ≤ 8) : MCi wX tX l yX0_personsFillCube wsX0_personsFillCube ({ frames := 1, cells := 0, slots := 0, locals := 20 }) [] (G, L) (fun r u => u = (G, L) ∧ r = nI (bN (cubeN G))) := by
  refine x_starti (cc := cX0_personsFillCube) (maxL := 1) (ret := (some .boolean)) (own := RX0) (by decide) rfl rfl (fun _ => Nat.le_of_ble_eq_true rfl) ?_
  intro p e s m args below meth c D h q cs F hK hr hlk Q0 hQ0
  refine x_lv (lv' := [(0, .ref h)]) [0] rfl ?_
  have hin : ∀ w ∈ wsX00, w ∈ wsX0_personsFillCube := by decide +kernel
  have hm_personTotal : Cond.fieldLink RX0 9 "GossipSchedule" "personTotal" "I" ∈ wsX0_personsFillCube := by decide +kernel
  refine x_aload_n (pc := 0) F dX0_personsFillCube_0 0 rfl rfl ?_
  refine gX_personTotal (v := G 0 0) (pc := 1) F hK hin hm_personTotal rfl dX0_personsFillCube_1 ?_
  refine x_scalli (pc := 4) F [.int (nI (G 0 0))] [] (c_J6_bitCount_0f7a4 l (nI (G 0 0))) (va_cwS 1 F.2.2.2.2 gX0_personsFillCube_J6_bitCount_0f7a4 rfl rfl rfl (by decide +kernel) ⟨Nat.le_of_ble_eq_true rfl, Nat.le_of_ble_eq_true rfl⟩) rfl rfl (Nat.le_of_ble_eq_true rfl) dX0_personsFillCube_4 ?_
  rintro _ rfl
  rw [bcI_small _ (by omega)]
  have hpl := pop_le (G 0 0) 12
  refine x_iconst (v := nI 1) (pc := 7) F dX0_personsFillCube_7 (by decide) ?_
  refine x_icmpN_ne (tgt := 15) (pc := 8) F dX0_personsFillCube_8 (by decide) (by omega) (by decide) (fun hc_8 => ?_) (fun hc_8 => ?_)
  · refine x_iconst (v := nI 0) (pc := 15) F dX0_personsFillCube_15 (by decide) ?_
    exact x_retz (w := wX) (ty := tX) (pc := 16) F hK hr hlk hQ0 (nar_z _ (by omega)) dX0_personsFillCube_16 (⟨rfl, congrArg nI (bN_f (fun z => absurd ((pop_n _ h8 h2).mpr z) (by omega))).symm⟩)
  · refine x_iconst (v := nI 1) (pc := 11) F dX0_personsFillCube_11 (by decide) ?_
    refine x_goto (tgt := 16) (pc := 12) F dX0_personsFillCube_12 (by decide) ?_
    exact x_retz (w := wX) (ty := tX) (pc := 16) F hK hr hlk hQ0 (nar_z _ (by omega)) dX0_personsFillCube_16 (⟨rfl, congrArg nI (bN_t ((pop_n _ h8 h2).mp (by omega))).symm⟩)
set_option maxHeartbeats 4000000 in
set_option maxRecDepth 100000 in
theorem c_X0_graphJoins (l : Launch) (G : GS) (L : Nat → Nat) (a b : Nat) (ha : a < G 0 0) (hb : b < G 0 0) (h8 : G 0 0 ≤ 8) (h4 : G 2 0 ≤ 4) : MCi wX tX l yX0_graphJoins wsX0_graphJoins ({ frames := 1, cells := 0, slots := 0, locals := 23 }) [.int (nI a), .int (nI b)] (G, L) (fun r u => u = (G, L) ∧ r = nI (bN (edge G a b))) := by
  refine x_starti (cc := cX0_graphJoins) (maxL := 4) (ret := (some .boolean)) (own := RX0) (by decide) rfl rfl (fun _ => Nat.le_of_ble_eq_true rfl) ?_
  intro p e s m args below meth c D h q cs F hK hr hlk Q0 hQ0
  refine x_lv (lv' := [(0, .ref h), (1, .int (nI a)), (2, .int (nI b))]) [0, 1, 2] rfl ?_
  have hin : ∀ w ∈ wsX00, w ∈ wsX0_graphJoins := by decide +kernel
  have hm_graphKind : Cond.fieldLink RX0 16 "GossipSchedule" "graphKind" "I" ∈ wsX0_graphJoins := by decide +kernel
  have hm_personTotal : Cond.fieldLink RX0 9 "GossipSchedule" "personTotal" "I" ∈ wsX0_graphJoins := by decide +kernel
  refine x_iload_n (pc := 0) F dX0_graphJoins_0 1 rfl rfl ?_
  refine x_iload_n (pc := 1) F dX0_graphJoins_1 2 rfl rfl ?_
  refine x_icmpN_ne (tgt := 7) (pc := 2) F dX0_graphJoins_2 (by decide) (by omega) (by omega) (fun hc_2 => ?_) (fun hc_2 => ?_)
  · refine x_iload_n (pc := 7) F dX0_graphJoins_7 1 rfl rfl ?_
    refine x_iload_n (pc := 8) F dX0_graphJoins_8 2 rfl rfl ?_
    refine x_isub (pc := 9) F dX0_graphJoins_9 rfl ?_
    refine x_mabs (z := nI (a - b + (b - a))) (pc := 10) F (by decide +kernel) (by decide +kernel) (by decide +kernel) (by decide +kernel) (Nat.le_of_ble_eq_true rfl) (Nat.le_of_ble_eq_true rfl) (absD_sub (by omega) (by omega)) dX0_graphJoins_10 ?_
    refine x_istore_n (lv' := [(0, .ref h), (1, .int (nI a)), (2, .int (nI b)), (3, .int (nI (a - b + (b - a))))]) (pc := 13) F dX0_graphJoins_13 rfl (by decide) [1, 2, 3, 0] rfl ?_
    refine x_aload_n (pc := 14) F dX0_graphJoins_14 0 rfl rfl ?_
    refine gX_graphKind (v := G 2 0) (pc := 15) F hK hin hm_graphKind rfl dX0_graphJoins_15 ?_
    rcases (show (G 2 0) = 1 ∨ (G 2 0) = 2 ∨ (G 2 0) = 3 ∨ (G 2 0) = 4 ∨ 4 < (G 2 0) ∨ (G 2 0) < 1 by omega) with hsw | hsw | hsw | hsw | hsw | hsw
    · refine x_tableN (k := 1) (tgt := 48) (pc := 18) F dX0_graphJoins_18 hsw (by decide) (by decide) (by decide) rfl (by decide) ?_
      refine x_iload_n (pc := 48) F dX0_graphJoins_48 3 rfl rfl ?_
      refine x_iconst (v := nI 1) (pc := 49) F dX0_graphJoins_49 (by decide) ?_
      refine x_icmpN_eq (tgt := 63) (pc := 50) F dX0_graphJoins_50 (by decide) (by omega) (by decide) (fun hc_50 => ?_) (fun hc_50 => ?_)
      · refine x_iconst (v := nI 1) (pc := 63) F dX0_graphJoins_63 (by decide) ?_
        refine x_goto (tgt := 68) (pc := 64) F dX0_graphJoins_64 (by decide) ?_
        exact x_retz (w := wX) (ty := tX) (pc := 68) F hK hr hlk hQ0 (nar_z _ (by omega)) dX0_graphJoins_68 (⟨rfl, congrArg nI (bN_t (edge_iff.mpr ⟨by omega, fun z => by omega, fun z => by omega, fun z => by omega, fun z => by omega⟩)).symm⟩)
      · refine x_iload_n (pc := 53) F dX0_graphJoins_53 3 rfl rfl ?_
        refine x_aload_n (pc := 54) F dX0_graphJoins_54 0 rfl rfl ?_
        refine gX_personTotal (v := G 0 0) (pc := 55) F hK hin hm_personTotal rfl dX0_graphJoins_55 ?_
        refine x_iconst (v := nI 1) (pc := 58) F dX0_graphJoins_58 (by decide) ?_
        refine x_isub (z := nI (G 0 0 - 1)) (pc := 59) F dX0_graphJoins_59 (pk_sub (by omega)) ?_
        refine x_icmpN_ne (tgt := 67) (pc := 60) F dX0_graphJoins_60 (by decide) (by omega) (by omega) (fun hc_60 => ?_) (fun hc_60 => ?_)
        · refine x_iconst (v := nI 0) (pc := 67) F dX0_graphJoins_67 (by decide) ?_
          exact x_retz (w := wX) (ty := tX) (pc := 68) F hK hr hlk hQ0 (nar_z _ (by omega)) dX0_graphJoins_68 (⟨rfl, congrArg nI (bN_f (fun z0 => by have z := edge_iff.mp z0; have z1 := z.1; have z2 := z.2.1; have z3 := z.2.2.1; have z4 := z.2.2.2.1; omega)).symm⟩)
        · refine x_iconst (v := nI 1) (pc := 63) F dX0_graphJoins_63 (by decide) ?_
          refine x_goto (tgt := 68) (pc := 64) F dX0_graphJoins_64 (by decide) ?_
          exact x_retz (w := wX) (ty := tX) (pc := 68) F hK hr hlk hQ0 (nar_z _ (by omega)) dX0_graphJoins_68 (⟨rfl, congrArg nI (bN_t (edge_iff.mpr ⟨by omega, fun z => by omega, fun z => by omega, fun z => by omega, fun z => by omega⟩)).symm⟩)
    · refine x_tableN (k := 2) (tgt := 69) (pc := 18) F dX0_graphJoins_18 hsw (by decide) (by decide) (by decide) rfl (by decide) ?_
      refine x_iload_n (pc := 69) F dX0_graphJoins_69 3 rfl rfl ?_
      refine x_iconst (v := nI 1) (pc := 70) F dX0_graphJoins_70 (by decide) ?_
      refine x_icmpN_ne (tgt := 78) (pc := 71) F dX0_graphJoins_71 (by decide) (by omega) (by decide) (fun hc_71 => ?_) (fun hc_71 => ?_)
      · refine x_iconst (v := nI 0) (pc := 78) F dX0_graphJoins_78 (by decide) ?_
        exact x_retz (w := wX) (ty := tX) (pc := 79) F hK hr hlk hQ0 (nar_z _ (by omega)) dX0_graphJoins_79 (⟨rfl, congrArg nI (bN_f (fun z0 => by have z := edge_iff.mp z0; have z1 := z.1; have z2 := z.2.1; have z3 := z.2.2.1; have z4 := z.2.2.2.1; omega)).symm⟩)
      · refine x_iconst (v := nI 1) (pc := 74) F dX0_graphJoins_74 (by decide) ?_
        refine x_goto (tgt := 79) (pc := 75) F dX0_graphJoins_75 (by decide) ?_
        exact x_retz (w := wX) (ty := tX) (pc := 79) F hK hr hlk hQ0 (nar_z _ (by omega)) dX0_graphJoins_79 (⟨rfl, congrArg nI (bN_t (edge_iff.mpr ⟨by omega, fun z => by omega, fun z => by omega, fun z => by omega, fun z => by omega⟩)).symm⟩)
    · refine x_tableN (k := 3) (tgt := 80) (pc := 18) F dX0_graphJoins_18 hsw (by decide) (by decide) (by decide) rfl (by decide) ?_
      refine x_iload_n (pc := 80) F dX0_graphJoins_80 1 rfl rfl ?_
      refine x_ifN_eq (tgt := 88) (pc := 81) F dX0_graphJoins_81 (by decide) (by omega) (fun hc_81 => ?_) (fun hc_81 => ?_)
      · refine x_iconst (v := nI 1) (pc := 88) F dX0_graphJoins_88 (by decide) ?_
        refine x_goto (tgt := 93) (pc := 89) F dX0_graphJoins_89 (by decide) ?_
        exact x_retz (w := wX) (ty := tX) (pc := 93) F hK hr hlk hQ0 (nar_z _ (by omega)) dX0_graphJoins_93 (⟨rfl, congrArg nI (bN_t (edge_iff.mpr ⟨by omega, fun z => by omega, fun z => by omega, fun z => by omega, fun z => by omega⟩)).symm⟩)
      · refine x_iload_n (pc := 84) F dX0_graphJoins_84 2 rfl rfl ?_
        refine x_ifN_ne (tgt := 92) (pc := 85) F dX0_graphJoins_85 (by decide) (by omega) (fun hc_85 => ?_) (fun hc_85 => ?_)
        · refine x_iconst (v := nI 0) (pc := 92) F dX0_graphJoins_92 (by decide) ?_
          exact x_retz (w := wX) (ty := tX) (pc := 93) F hK hr hlk hQ0 (nar_z _ (by omega)) dX0_graphJoins_93 (⟨rfl, congrArg nI (bN_f (fun z0 => by have z := edge_iff.mp z0; have z1 := z.1; have z2 := z.2.1; have z3 := z.2.2.1; have z4 := z.2.2.2.1; omega)).symm⟩)
        · refine x_iconst (v := nI 1) (pc := 88) F dX0_graphJoins_88 (by decide) ?_
          refine x_goto (tgt := 93) (pc := 89) F dX0_graphJoins_89 (by decide) ?_
          exact x_retz (w := wX) (ty := tX) (pc := 93) F hK hr hlk hQ0 (nar_z _ (by omega)) dX0_graphJoins_93 (⟨rfl, congrArg nI (bN_t (edge_iff.mpr ⟨by omega, fun z => by omega, fun z => by omega, fun z => by omega, fun z => by omega⟩)).symm⟩)
    · refine x_tableN (k := 4) (tgt := 94) (pc := 18) F dX0_graphJoins_18 hsw (by decide) (by decide) (by decide) rfl (by decide) ?_
      have hpx := pop_xor a (by omega) b (by omega)
      refine x_iload_n (pc := 94) F dX0_graphJoins_94 1 rfl rfl ?_
      refine x_iload_n (pc := 95) F dX0_graphJoins_95 2 rfl rfl ?_
      refine x_ixor (z := nI (a ^^^ b)) (pc := 96) F dX0_graphJoins_96 (nx_xor a b) ?_
      refine x_scalli (pc := 97) F [.int (nI (a ^^^ b))] [] (c_J6_bitCount_0f7a4 l (nI (a ^^^ b))) (va_cwS 1 F.2.2.2.2 gX0_graphJoins_J6_bitCount_0f7a4 rfl rfl rfl (by decide +kernel) ⟨Nat.le_of_ble_eq_true rfl, Nat.le_of_ble_eq_true rfl⟩) rfl rfl (Nat.le_of_ble_eq_true rfl) dX0_graphJoins_97 ?_
      rintro _ rfl
      rw [bcI_small _ hpx.1]
      have hpl := pop_le (a ^^^ b) 12
      refine x_iconst (v := nI 1) (pc := 100) F dX0_graphJoins_100 (by decide) ?_
      refine x_icmpN_ne (tgt := 108) (pc := 101) F dX0_graphJoins_101 (by decide) (by omega) (by decide) (fun hc_101 => ?_) (fun hc_101 => ?_)
      · refine x_iconst (v := nI 0) (pc := 108) F dX0_graphJoins_108 (by decide) ?_
        exact x_retz (w := wX) (ty := tX) (pc := 109) F hK hr hlk hQ0 (nar_z _ (by omega)) dX0_graphJoins_109 (⟨rfl, congrArg nI (bN_f (fun z => absurd ((hpx.2).mpr ((edge_iff.mp z).2.2.2.2 (by omega))) (by omega))).symm⟩)
      · refine x_iconst (v := nI 1) (pc := 104) F dX0_graphJoins_104 (by decide) ?_
        refine x_goto (tgt := 109) (pc := 105) F dX0_graphJoins_105 (by decide) ?_
        exact x_retz (w := wX) (ty := tX) (pc := 109) F hK hr hlk hQ0 (nar_z _ (by omega)) dX0_graphJoins_109 (⟨rfl, congrArg nI (bN_t (edge_iff.mpr ⟨by omega, fun z => by omega, fun z => by omega, fun z => by omega, fun _ => (hpx.2).mp (by omega)⟩)).symm⟩)
    · refine x_tableNO (tgt := 110) (pc := 18) F dX0_graphJoins_18 (by omega) (Or.inr (by omega)) (by decide) ?_
      refine x_iconst (v := nI 1) (pc := 110) F dX0_graphJoins_110 (by decide) ?_
      exact x_retz (w := wX) (ty := tX) (pc := 111) F hK hr hlk hQ0 (nar_z _ (by omega)) dX0_graphJoins_111 (⟨rfl, congrArg nI (bN_t (edge_iff.mpr ⟨by omega, fun z => by omega, fun z => by omega, fun z => by omega, fun z => by omega⟩)).symm⟩)
    · refine x_tableNO (tgt := 110) (pc := 18) F dX0_graphJoins_18 (by omega) (Or.inl (by omega)) (by decide) ?_
      refine x_iconst (v := nI 1) (pc := 110) F dX0_graphJoins_110 (by decide) ?_
      exact x_retz (w := wX) (ty := tX) (pc := 111) F hK hr hlk hQ0 (nar_z _ (by omega)) dX0_graphJoins_111 (⟨rfl, congrArg nI (bN_t (edge_iff.mpr ⟨by omega, fun z => by omega, fun z => by omega, fun z => by omega, fun z => by omega⟩)).symm⟩)
  · refine x_iconst (v := nI 0) (pc := 5) F dX0_graphJoins_5 (by decide) ?_
    exact x_retz (w := wX) (ty := tX) (pc := 6) F hK hr hlk hQ0 (nar_z _ (by omega)) dX0_graphJoins_6 (⟨rfl, congrArg nI (bN_f (fun z0 => by have z := edge_iff.mp z0; have z1 := z.1; have z2 := z.2.1; have z3 := z.2.2.1; have z4 := z.2.2.2.1; omega)).symm⟩)
set_option maxHeartbeats 4000000 in
set_option maxRecDepth 100000 in
theorem c_X0_modeAccepts (l : Launch) (G : GS) (L : Nat → Nat) (w : Nat) (hw : w < 2) (hm : G 1 0 ≤ 2) : MCi wX tX l yX0_modeAccepts wsX0_modeAccepts ({ frames := 0, cells := 0, slots := 0, locals := 0 }) [.int (nI w)] (G, L) (fun r u => u = (G, L) ∧ r = nI (bN (acc G w))) := by
  refine x_starti (cc := cX0_modeAccepts) (maxL := 2) (ret := (some .boolean)) (own := RX0) (by decide) rfl rfl (fun _ => Nat.le_of_ble_eq_true rfl) ?_
  intro p e s m args below meth c D h q cs F hK hr hlk Q0 hQ0
  refine x_lv (lv' := [(0, .ref h), (1, .int (nI w))]) [0, 1] rfl ?_
  have hin : ∀ w ∈ wsX00, w ∈ wsX0_modeAccepts := by decide +kernel
  have hm_scheduleMode : Cond.fieldLink RX0 13 "GossipSchedule" "scheduleMode" "I" ∈ wsX0_modeAccepts := by decide +kernel
  refine x_aload_n (pc := 0) F dX0_modeAccepts_0 0 rfl rfl ?_
  refine gX_scheduleMode (v := G 1 0) (pc := 1) F hK hin hm_scheduleMode rfl dX0_modeAccepts_1 ?_
  refine x_ifN_eq (tgt := 24) (pc := 4) F dX0_modeAccepts_4 (by decide) (by omega) (fun hc_4 => ?_) (fun hc_4 => ?_)
  · refine x_iconst (v := nI 1) (pc := 24) F dX0_modeAccepts_24 (by decide) ?_
    refine x_goto (tgt := 29) (pc := 25) F dX0_modeAccepts_25 (by decide) ?_
    exact x_retz (w := wX) (ty := tX) (pc := 29) F hK hr hlk hQ0 (nar_z _ (by omega)) dX0_modeAccepts_29 (⟨rfl, congrArg nI (bN_t (by omega)).symm⟩)
  · refine x_iload_n (pc := 7) F dX0_modeAccepts_7 1 rfl rfl ?_
    refine x_aload_n (pc := 8) F dX0_modeAccepts_8 0 rfl rfl ?_
    refine gX_scheduleMode (v := G 1 0) (pc := 9) F hK hin hm_scheduleMode rfl dX0_modeAccepts_9 ?_
    refine x_iconst (v := nI 2) (pc := 12) F dX0_modeAccepts_12 (by decide) ?_
    refine x_icmpN_ne (tgt := 20) (pc := 13) F dX0_modeAccepts_13 (by decide) (by omega) (by decide) (fun hc_13 => ?_) (fun hc_13 => ?_)
    · refine x_iconst (v := nI 0) (pc := 20) F dX0_modeAccepts_20 (by decide) ?_
      refine x_icmpN_ne (tgt := 28) (pc := 21) F dX0_modeAccepts_21 (by decide) (by omega) (by decide) (fun hc_21 => ?_) (fun hc_21 => ?_)
      · refine x_iconst (v := nI 0) (pc := 28) F dX0_modeAccepts_28 (by decide) ?_
        exact x_retz (w := wX) (ty := tX) (pc := 29) F hK hr hlk hQ0 (nar_z _ (by omega)) dX0_modeAccepts_29 (⟨rfl, congrArg nI (bN_f (by omega)).symm⟩)
      · refine x_iconst (v := nI 1) (pc := 24) F dX0_modeAccepts_24 (by decide) ?_
        refine x_goto (tgt := 29) (pc := 25) F dX0_modeAccepts_25 (by decide) ?_
        exact x_retz (w := wX) (ty := tX) (pc := 29) F hK hr hlk hQ0 (nar_z _ (by omega)) dX0_modeAccepts_29 (⟨rfl, congrArg nI (bN_t (by omega)).symm⟩)
    · refine x_iconst (v := nI 1) (pc := 16) F dX0_modeAccepts_16 (by decide) ?_
      refine x_goto (tgt := 21) (pc := 17) F dX0_modeAccepts_17 (by decide) ?_
      refine x_icmpN_ne (tgt := 28) (pc := 21) F dX0_modeAccepts_21 (by decide) (by omega) (by decide) (fun hc_21 => ?_) (fun hc_21 => ?_)
      · refine x_iconst (v := nI 0) (pc := 28) F dX0_modeAccepts_28 (by decide) ?_
        exact x_retz (w := wX) (ty := tX) (pc := 29) F hK hr hlk hQ0 (nar_z _ (by omega)) dX0_modeAccepts_29 (⟨rfl, congrArg nI (bN_f (by omega)).symm⟩)
      · refine x_iconst (v := nI 1) (pc := 24) F dX0_modeAccepts_24 (by decide) ?_
        refine x_goto (tgt := 29) (pc := 25) F dX0_modeAccepts_25 (by decide) ?_
        exact x_retz (w := wX) (ty := tX) (pc := 29) F hK hr hlk hQ0 (nar_z _ (by omega)) dX0_modeAccepts_29 (⟨rfl, congrArg nI (bN_t (by omega)).symm⟩)
set_option maxHeartbeats 4000000 in
set_option maxRecDepth 100000 in
theorem c_X0_pairOf (l : Launch) (a b : Nat) (ha : a < 8) (hb : b < 8) : MSi l yX0_pairOf wsX0_pairOf ({ frames := 0, cells := 0, slots := 0, locals := 0 }) [.int (nI a), .int (nI b)] (fun r => r = nI (1 * 2 ^ a ||| 1 * 2 ^ b)) := by
  refine x_sstarti (cc := cX0_pairOf) (maxL := 2) (ret := (some .int)) (own := RX0) (by decide) rfl rfl (Nat.le_of_ble_eq_true rfl) ?_
  intro p e s m args below meth c D F hr hlk Q0 hQ0
  refine x_lv (lv' := [(0, .int (nI a)), (1, .int (nI b))]) [0, 1] rfl ?_
  refine x_iconst (v := nI 1) (pc := 0) F dX0_pairOf_0 (by decide) ?_
  refine x_iload_n (pc := 1) F dX0_pairOf_1 0 rfl rfl ?_
  refine x_ishl (z := nI (1 * 2 ^ a)) (pc := 2) F dX0_pairOf_2 (nx_shl (by omega) (two_lt ha)) ?_
  refine x_iconst (v := nI 1) (pc := 3) F dX0_pairOf_3 (by decide) ?_
  refine x_iload_n (pc := 4) F dX0_pairOf_4 1 rfl rfl ?_
  refine x_ishl (z := nI (1 * 2 ^ b)) (pc := 5) F dX0_pairOf_5 (nx_shl (by omega) (two_lt hb)) ?_
  refine x_ior (z := nI ((1 * 2 ^ a) ||| (1 * 2 ^ b))) (pc := 6) F dX0_pairOf_6 (nx_or (1 * 2 ^ a) (1 * 2 ^ b)) ?_
  exact x_sreti (pc := 7) F hr hlk hQ0 dX0_pairOf_7 (rfl)
set_option maxHeartbeats 4000000 in
set_option maxRecDepth 100000 in
theorem c_X0_dropRounds (l : Launch) (G : GS) (L : Nat → Nat) : MCv wX tX l yX0_dropRounds wsX0_dropRounds ({ frames := 0, cells := 0, slots := 0, locals := 0 }) [] (G, L) (fun u => u = (dropG G, L)) := by
  refine x_startv (cc := cX0_dropRounds) (maxL := 1) (ret := none) (own := RX0) (by decide) rfl rfl (fun _ => Nat.le_of_ble_eq_true rfl) ?_
  intro p e s m args below meth c D h q cs F hK hr hlk Q0 hQ0
  refine x_lv (lv' := [(0, .ref h)]) [0] rfl ?_
  have hin : ∀ w ∈ wsX00, w ∈ wsX0_dropRounds := by decide +kernel
  have hm_roundTotal : Cond.fieldLink RX0 55 "GossipSchedule" "roundTotal" "I" ∈ wsX0_dropRounds := by decide +kernel
  have hm_callTotal : Cond.fieldLink RX0 70 "GossipSchedule" "callTotal" "I" ∈ wsX0_dropRounds := by decide +kernel
  refine x_aload_n (pc := 0) F dX0_dropRounds_0 0 rfl rfl ?_
  refine x_iconst (v := nI 0) (pc := 1) F dX0_dropRounds_1 (by decide) ?_
  refine pX_roundTotal (pc := 2) F hK hin hm_roundTotal dX0_dropRounds_2 ?_
  refine x_aload_n (pc := 5) F dX0_dropRounds_5 0 rfl rfl ?_
  refine x_iconst (v := nI 0) (pc := 6) F dX0_dropRounds_6 (by decide) ?_
  refine pX_callTotal (pc := 7) F hK hin hm_callTotal dX0_dropRounds_7 ?_
  exact x_retv (w := wX) (ty := tX) (pc := 10) F hK hr hlk hQ0 dX0_dropRounds_10 (rfl)
set_option maxHeartbeats 4000000 in
set_option maxRecDepth 100000 in
theorem c_X0_putCall (l : Launch) (G : GS) (L : Nat → Nat) (a b w : Nat) (hw : w < 2) (hc : G 4 0 < 28) (hr1 : 1 ≤ G 3 0) : MCv wX tX l yX0_putCall wsX0_putCall ({ frames := 0, cells := 0, slots := 0, locals := 0 }) [.int (nI a), .int (nI b), .int (nI w)] (G, L) (fun u => u = (putG G a b w, L)) := by
  refine x_startv (cc := cX0_putCall) (maxL := 4) (ret := none) (own := RX0) (by decide) rfl rfl (fun _ => Nat.le_of_ble_eq_true rfl) ?_
  intro p e s m args below meth c D h q cs F hK hr hlk Q0 hQ0
  refine x_lv (lv' := [(0, .ref h), (1, .int (nI a)), (2, .int (nI b)), (3, .int (nI w))]) [0, 1, 2, 3] rfl ?_
  have hin : ∀ w ∈ wsX00, w ∈ wsX0_putCall := by decide +kernel
  have hm_callTotal : Cond.fieldLink RX0 70 "GossipSchedule" "callTotal" "I" ∈ wsX0_putCall := by decide +kernel
  have hm_roundOf : Cond.fieldLink RX0 19 "GossipSchedule" "roundOf" "[I" ∈ wsX0_putCall := by decide +kernel
  have hm_roundTotal : Cond.fieldLink RX0 55 "GossipSchedule" "roundTotal" "I" ∈ wsX0_putCall := by decide +kernel
  have hm_callerOf : Cond.fieldLink RX0 23 "GossipSchedule" "callerOf" "[I" ∈ wsX0_putCall := by decide +kernel
  have hm_calleeOf : Cond.fieldLink RX0 26 "GossipSchedule" "calleeOf" "[I" ∈ wsX0_putCall := by decide +kernel
  have hm_isOneWay : Cond.fieldLink RX0 29 "GossipSchedule" "isOneWay" "[Z" ∈ wsX0_putCall := by decide +kernel
  refine x_aload_n (pc := 0) F dX0_putCall_0 0 rfl rfl ?_
  refine gX_callTotal (v := G 4 0) (pc := 1) F hK hin hm_callTotal rfl dX0_putCall_1 ?_
  refine x_bipush (v := nI 28) (pc := 4) F dX0_putCall_4 (by decide) ?_
  refine x_icmpN_lt (tgt := 10) (pc := 6) F dX0_putCall_6 (by decide) (by omega) (by decide) (fun hc_6 => ?_) (fun hc_6 => absurd hc_6 (by omega))
  refine x_aload_n (pc := 10) F dX0_putCall_10 0 rfl rfl ?_
  refine gX_roundOf (pc := 11) F hK hin hm_roundOf dX0_putCall_11 ?_
  refine x_aload_n (pc := 14) F dX0_putCall_14 0 rfl rfl ?_
  refine gX_callTotal (v := G 4 0) (pc := 15) F hK hin hm_callTotal rfl dX0_putCall_15 ?_
  refine x_aload_n (pc := 18) F dX0_putCall_18 0 rfl rfl ?_
  refine gX_roundTotal (v := G 3 0) (pc := 19) F hK hin hm_roundTotal rfl dX0_putCall_19 ?_
  refine x_iconst (v := nI 1) (pc := 22) F dX0_putCall_22 (by decide) ?_
  refine x_isub (z := nI (G 3 0 - 1)) (pc := 23) F dX0_putCall_23 (pk_sub (by omega)) ?_
  refine sX_roundOf (pc := 24) F hK dX0_putCall_24 (by omega) ?_
  refine x_aload_n (pc := 25) F dX0_putCall_25 0 rfl rfl ?_
  refine gX_callerOf (pc := 26) F hK hin hm_callerOf dX0_putCall_26 ?_
  refine x_aload_n (pc := 29) F dX0_putCall_29 0 rfl rfl ?_
  refine gX_callTotal (v := G 4 0) (pc := 30) F hK hin hm_callTotal rfl dX0_putCall_30 ?_
  refine x_iload_n (pc := 33) F dX0_putCall_33 1 rfl rfl ?_
  refine sX_callerOf (pc := 34) F hK dX0_putCall_34 (by omega) ?_
  refine x_aload_n (pc := 35) F dX0_putCall_35 0 rfl rfl ?_
  refine gX_calleeOf (pc := 36) F hK hin hm_calleeOf dX0_putCall_36 ?_
  refine x_aload_n (pc := 39) F dX0_putCall_39 0 rfl rfl ?_
  refine gX_callTotal (v := G 4 0) (pc := 40) F hK hin hm_callTotal rfl dX0_putCall_40 ?_
  refine x_iload_n (pc := 43) F dX0_putCall_43 2 rfl rfl ?_
  refine sX_calleeOf (pc := 44) F hK dX0_putCall_44 (by omega) ?_
  refine x_aload_n (pc := 45) F dX0_putCall_45 0 rfl rfl ?_
  refine gX_isOneWay (pc := 46) F hK hin hm_isOneWay dX0_putCall_46 ?_
  refine x_aload_n (pc := 49) F dX0_putCall_49 0 rfl rfl ?_
  refine gX_callTotal (v := G 4 0) (pc := 50) F hK hin hm_callTotal rfl dX0_putCall_50 ?_
  refine x_iload_n (pc := 53) F dX0_putCall_53 3 rfl rfl ?_
  refine sX_isOneWay (pc := 54) F hK dX0_putCall_54 (by omega) (by omega) ?_
  refine x_aload_n (pc := 55) F dX0_putCall_55 0 rfl rfl ?_
  refine x_dup (pc := 56) F dX0_putCall_56 rfl ?_
  refine gX_callTotal (v := G 4 0) (pc := 57) F hK hin hm_callTotal rfl dX0_putCall_57 ?_
  refine x_iconst (v := nI 1) (pc := 60) F dX0_putCall_60 (by decide) ?_
  refine x_iadd (z := nI (G 4 0 + 1)) (pc := 61) F dX0_putCall_61 (nI_add (G 4 0) 1) ?_
  refine pX_callTotal (pc := 62) F hK hin hm_callTotal dX0_putCall_62 ?_
  exact x_retv (w := wX) (ty := tX) (pc := 65) F hK hr hlk hQ0 dX0_putCall_65 (rfl)
