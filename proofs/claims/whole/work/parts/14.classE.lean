set_option maxHeartbeats 4000000 in
set_option maxRecDepth 100000 in
theorem c_X0_load (l : Launch) (G : GS) (L : Nat → Nat) (hG : ok G) : MCi wX tX l yX0_load wsX0_load ({ frames := 5, cells := 0, slots := 0, locals := 105 }) [] (G, L) (fun r u => u = (sg_load G, L) ∧ r = sp_load G) := by
  have hG0 := hG
  obtain ⟨b1, b2, b3, b4, b5, b6, b7, b8, b9, b10, b11⟩ := hG0
  refine x_starti (cc := cX0_load) (maxL := 2) (ret := (some .int)) (own := RX0) (by decide) rfl rfl (fun _ => Nat.le_of_ble_eq_true rfl) ?_
  intro p e s m args below meth c D h q cs F hK hr hlk Q0 hQ0
  refine x_lv (lv' := [(0, .ref h)]) [0] rfl ?_
  have hin : ∀ w ∈ wsX00, w ∈ wsX0_load := by decide +kernel
  have hm_inputLength : Cond.fieldLink RX0 77 "GossipSchedule" "inputLength" "I" ∈ wsX0_load := by decide +kernel
  have hm_callTotal : Cond.fieldLink RX0 70 "GossipSchedule" "callTotal" "I" ∈ wsX0_load := by decide +kernel
  refine x_aload_n (pc := 0) F dX0_load_0 0 rfl rfl ?_
  refine x_calli (w := wX) (ty := tX) (pc := 1) F hK wX_in [] [] (c_X0_inputIsWhole l G L hG) (cwV 0 F.2.2.2.2 gX0_load_X0_inputIsWhole rfl rfl rfl (by decide +kernel) ⟨Nat.le_of_ble_eq_true rfl, Nat.le_of_ble_eq_true rfl⟩) rfl rfl rfl rfl (Nat.le_of_ble_eq_true rfl) dX0_load_1 ?_
  rintro _ _ ⟨rfl, rfl⟩
  refine x_ifB_ne (tgt := 10) (pc := 4) F dX0_load_4 (by decide) (fun hc_4 => ?_) (fun hc_4 => ?_)
  · refine x_aload_n (pc := 10) F dX0_load_10 0 rfl rfl ?_
    refine x_calli (w := wX) (ty := tX) (pc := 11) F hK wX_in [] [] (c_X0_firstRefusedCall l G L hG hc_4) (cwV 0 F.2.2.2.2 gX0_load_X0_firstRefusedCall rfl rfl rfl (by decide +kernel) ⟨Nat.le_of_ble_eq_true rfl, Nat.le_of_ble_eq_true rfl⟩) rfl rfl rfl rfl (Nat.le_of_ble_eq_true rfl) dX0_load_11 ?_
    rintro _ _ ⟨rfl, rfl⟩
    refine x_istore_n (lv' := [(0, .ref h), (1, .int (er G))]) (pc := 14) F dX0_load_14 rfl (by decide) [1, 0] rfl ?_
    refine x_iload_n (pc := 15) F dX0_load_15 1 rfl rfl ?_
    refine x_if_eq (tgt := 21) (pc := 16) F dX0_load_16 (by decide) (fun hc_16 => ?_) (fun hc_16 => ?_)
    · refine x_aload_n (pc := 21) F dX0_load_21 0 rfl rfl ?_
      refine x_callv (w := wX) (ty := tX) (pc := 22) F hK wX_in [] [] (c_X0_takeCallsOfInput l G L hG hc_4) (cwV 0 F.2.2.2.2 gX0_load_X0_takeCallsOfInput rfl rfl rfl (by decide +kernel) ⟨Nat.le_of_ble_eq_true rfl, Nat.le_of_ble_eq_true rfl⟩) rfl rfl rfl rfl (Nat.le_of_ble_eq_true rfl) dX0_load_22 ?_
      rintro _ rfl
      refine x_aload_n (pc := 25) F dX0_load_25 0 rfl rfl ?_
      refine x_iconst (v := nI 0) (pc := 26) F dX0_load_26 (by decide) ?_
      refine pX_inputLength (pc := 27) F hK hin hm_inputLength dX0_load_27 ?_
      refine x_aload_n (pc := 30) F dX0_load_30 0 rfl rfl ?_
      refine gX_callTotal (v := (G 10 0 + 1) / 4) (pc := 31) F hK hin hm_callTotal (ldG_4 G _) dX0_load_31 ?_
      exact x_reti (w := wX) (ty := tX) (pc := 34) F hK hr hlk hQ0 dX0_load_34 (⟨by rw [sg_load, if_pos hc_4, if_pos hc_16]; rfl, by rw [sp_load, if_pos hc_4, if_pos hc_16]⟩)
    · refine x_iload_n (pc := 19) F dX0_load_19 1 rfl rfl ?_
      exact x_reti (w := wX) (ty := tX) (pc := 20) F hK hr hlk hQ0 dX0_load_20 (⟨by rw [sg_load, if_pos hc_4, if_neg hc_16], by rw [sp_load, if_pos hc_4, if_neg hc_16]⟩)
  · refine x_bipush (v := -4) (pc := 7) F dX0_load_7 (by decide) ?_
    exact x_reti (w := wX) (ty := tX) (pc := 9) F hK hr hlk hQ0 dX0_load_9 (⟨by rw [sg_load, if_neg hc_4], by rw [sp_load, if_neg hc_4]⟩)
set_option maxHeartbeats 4000000 in
set_option maxRecDepth 100000 in
theorem c_X0_putGathering (l : Launch) (G : GS) (L : Nat → Nat) (f w : Nat) (hw : w < 2) (hc : G 4 0 + 8 ≤ 28) (hf : f ≤ G 0 0) (h8 : G 0 0 ≤ 8) : MCv wX tX l yX0_putGathering wsX0_putGathering ({ frames := 1, cells := 0, slots := 0, locals := 23 }) [.int (nI f), .int (nI w)] (G, L) (fun u => u = (gat G w f (G 0 0 - f), L)) := by
  refine x_startv (cc := cX0_putGathering) (maxL := 4) (ret := none) (own := RX0) (by decide) rfl rfl (fun _ => Nat.le_of_ble_eq_true rfl) ?_
  intro p e s m args below meth c D h q cs F hK hr hlk Q0 hQ0
  refine x_lv (lv' := [(0, .ref h), (1, .int (nI f)), (2, .int (nI w))]) [0, 1, 2] rfl ?_
  have hin : ∀ w ∈ wsX00, w ∈ wsX0_putGathering := by decide +kernel
  have hm_personTotal : Cond.fieldLink RX0 9 "GossipSchedule" "personTotal" "I" ∈ wsX0_putGathering := by decide +kernel
  have hm_roundTotal : Cond.fieldLink RX0 55 "GossipSchedule" "roundTotal" "I" ∈ wsX0_putGathering := by decide +kernel
  refine x_iload_n (pc := 0) F dX0_putGathering_0 1 rfl rfl ?_
  refine x_istore_n (lv' := [(0, .ref h), (1, .int (nI f)), (2, .int (nI w)), (3, .int (nI f))]) (pc := 1) F dX0_putGathering_1 rfl (by decide) [1, 2, 3, 0] rfl ?_
  have cut_2 : ∀ (fu : Nat) (k : Nat), (f + k ≤ G 0 0) → (G 0 0 - (f + k)) < fu → V p l e ({ frames := 1, cells := 0, slots := 0, locals := 23 }) s m args below meth c 4 0 0 Q0 (IC wX D h q cs s (gat G w f k, L)) 2 [(0, .ref h), (1, .int (nI f)), (2, .int (nI w)), (3, .int (nI (f + k)))] [] := by
    intro fu
    induction fu with
    | zero => intro k hk hfu; exact absurd hfu (Nat.not_lt_zero _)
    | succ fu ih_2 =>
      intro k hk hfu
      refine x_iload_n (pc := 2) F dX0_putGathering_2 3 rfl rfl ?_
      refine x_aload_n (pc := 3) F dX0_putGathering_3 0 rfl rfl ?_
      refine gX_personTotal (v := G 0 0) (pc := 4) F hK hin hm_personTotal (seq_o _ _ _ _ 0 (by decide) k) dX0_putGathering_4 ?_
      refine x_icmpN_ge (tgt := 33) (pc := 7) F dX0_putGathering_7 (by decide) (by omega) (by omega) (fun hc_7 => ?_) (fun hc_7 => ?_)
      · exact x_retv (w := wX) (ty := tX) (pc := 33) F hK hr hlk hQ0 dX0_putGathering_33 (by rw [show G 0 0 - f = k by omega])
      · refine x_aload_n (pc := 10) F dX0_putGathering_10 0 rfl rfl ?_
        refine x_dup (pc := 11) F dX0_putGathering_11 rfl ?_
        refine gX_roundTotal (v := (gat G w f k) 3 0) (pc := 12) F hK hin hm_roundTotal rfl dX0_putGathering_12 ?_
        refine x_iconst (v := nI 1) (pc := 15) F dX0_putGathering_15 (by decide) ?_
        refine x_iadd (z := nI (((gat G w f k) 3 0) + 1)) (pc := 16) F dX0_putGathering_16 (nI_add ((gat G w f k) 3 0) 1) ?_
        refine pX_roundTotal (pc := 17) F hK hin hm_roundTotal dX0_putGathering_17 ?_
        refine x_aload_n (pc := 20) F dX0_putGathering_20 0 rfl rfl ?_
        refine x_iload_n (pc := 21) F dX0_putGathering_21 3 rfl rfl ?_
        refine x_iconst (v := nI 0) (pc := 22) F dX0_putGathering_22 (by decide) ?_
        refine x_iload_n (pc := 23) F dX0_putGathering_23 2 rfl rfl ?_
        refine x_callv (w := wX) (ty := tX) (pc := 24) F hK wX_in [.int (nI (f + k)), .int (nI 0), .int (nI w)] [] (c_X0_putCall l (up (gat G w f k) 3 0 (((gat G w f k) 3 0) + 1)) L (f + k) 0 w (by omega) (by have hq_4 : (up (gat G w f k) 3 0 (((gat G w f k) 3 0) + 1)) 4 0 = G 4 0 + k := (seq_4 _ _ _ _ k); omega) (by have hq_3 : (up (gat G w f k) 3 0 (((gat G w f k) 3 0) + 1)) 3 0 = ((gat G w f k) 3 0) + 1 := rfl; omega)) (cwV 3 F.2.2.2.2 gX0_putGathering_X0_putCall rfl rfl rfl (by decide +kernel) ⟨Nat.le_of_ble_eq_true rfl, Nat.le_of_ble_eq_true rfl⟩) rfl rfl rfl rfl (Nat.le_of_ble_eq_true rfl) dX0_putGathering_24 ?_
        rintro _ rfl
        refine x_iinc (v := nI ((f + k) + 1)) (lv' := [(0, .ref h), (1, .int (nI f)), (2, .int (nI w)), (3, .int (nI ((f + k) + 1)))]) (pc := 27) F dX0_putGathering_27 3 rfl (nx_inc (b := 1) (f + k) (by decide)) (by decide) [1, 2, 3, 0] rfl ?_
        refine x_goto (tgt := 2) (pc := 30) F dX0_putGathering_30 (by decide) ?_
        refine x_lv [0, 1, 2, 3] rfl ?_
        exact ih_2 (k + 1) (by omega) (by omega)
  refine x_lv [0, 1, 2, 3] rfl ?_
  exact cut_2 ((G 0 0 - (f + 0)) + 1) 0 (by omega) (Nat.lt_succ_self _)
set_option maxHeartbeats 4000000 in
set_option maxRecDepth 100000 in
theorem c_X0_putSpreading (l : Launch) (G : GS) (L : Nat → Nat) (f ee w : Nat) (hw : w < 2) (hc : G 4 0 + 8 ≤ 28) (hf : f ≤ ee + 1) (h8 : ee < f + 8 ∧ f < 100) : MCv wX tX l yX0_putSpreading wsX0_putSpreading ({ frames := 1, cells := 0, slots := 0, locals := 23 }) [.int (nI f), .int (nI ee), .int (nI w)] (G, L) (fun u => u = (spr G w f (ee + 1 - f), L)) := by
  refine x_startv (cc := cX0_putSpreading) (maxL := 5) (ret := none) (own := RX0) (by decide) rfl rfl (fun _ => Nat.le_of_ble_eq_true rfl) ?_
  intro p e s m args below meth c D h q cs F hK hr hlk Q0 hQ0
  refine x_lv (lv' := [(0, .ref h), (1, .int (nI f)), (2, .int (nI ee)), (3, .int (nI w))]) [0, 1, 2, 3] rfl ?_
  have hin : ∀ w ∈ wsX00, w ∈ wsX0_putSpreading := by decide +kernel
  have hm_roundTotal : Cond.fieldLink RX0 55 "GossipSchedule" "roundTotal" "I" ∈ wsX0_putSpreading := by decide +kernel
  refine x_iload_n (pc := 0) F dX0_putSpreading_0 1 rfl rfl ?_
  refine x_istore (lv' := [(0, .ref h), (1, .int (nI f)), (2, .int (nI ee)), (3, .int (nI w)), (4, .int (nI f))]) (pc := 1) F dX0_putSpreading_1 (by decide) [1, 2, 3, 4, 0] rfl ?_
  have cut_3 : ∀ (fu : Nat) (k : Nat), (f + k ≤ ee + 1) → (ee + 1 - (f + k)) < fu → V p l e ({ frames := 1, cells := 0, slots := 0, locals := 23 }) s m args below meth c 5 0 0 Q0 (IC wX D h q cs s (spr G w f k, L)) 3 [(0, .ref h), (1, .int (nI f)), (2, .int (nI ee)), (3, .int (nI w)), (4, .int (nI (f + k)))] [] := by
    intro fu
    induction fu with
    | zero => intro k hk hfu; exact absurd hfu (Nat.not_lt_zero _)
    | succ fu ih_3 =>
      intro k hk hfu
      refine x_iload (pc := 3) F dX0_putSpreading_3 4 rfl ?_
      refine x_iload_n (pc := 5) F dX0_putSpreading_5 2 rfl rfl ?_
      refine x_icmpN_gt (tgt := 33) (pc := 6) F dX0_putSpreading_6 (by decide) (by omega) (by omega) (fun hc_6 => ?_) (fun hc_6 => ?_)
      · exact x_retv (w := wX) (ty := tX) (pc := 33) F hK hr hlk hQ0 dX0_putSpreading_33 (by rw [show ee + 1 - f = k by omega])
      · refine x_aload_n (pc := 9) F dX0_putSpreading_9 0 rfl rfl ?_
        refine x_dup (pc := 10) F dX0_putSpreading_10 rfl ?_
        refine gX_roundTotal (v := (spr G w f k) 3 0) (pc := 11) F hK hin hm_roundTotal rfl dX0_putSpreading_11 ?_
        refine x_iconst (v := nI 1) (pc := 14) F dX0_putSpreading_14 (by decide) ?_
        refine x_iadd (z := nI (((spr G w f k) 3 0) + 1)) (pc := 15) F dX0_putSpreading_15 (nI_add ((spr G w f k) 3 0) 1) ?_
        refine pX_roundTotal (pc := 16) F hK hin hm_roundTotal dX0_putSpreading_16 ?_
        refine x_aload_n (pc := 19) F dX0_putSpreading_19 0 rfl rfl ?_
        refine x_iconst (v := nI 0) (pc := 20) F dX0_putSpreading_20 (by decide) ?_
        refine x_iload (pc := 21) F dX0_putSpreading_21 4 rfl ?_
        refine x_iload_n (pc := 23) F dX0_putSpreading_23 3 rfl rfl ?_
        refine x_callv (w := wX) (ty := tX) (pc := 24) F hK wX_in [.int (nI 0), .int (nI (f + k)), .int (nI w)] [] (c_X0_putCall l (up (spr G w f k) 3 0 (((spr G w f k) 3 0) + 1)) L 0 (f + k) w (by omega) (by have hq_4 : (up (spr G w f k) 3 0 (((spr G w f k) 3 0) + 1)) 4 0 = G 4 0 + k := (seq_4 _ _ _ _ k); omega) (by have hq_3 : (up (spr G w f k) 3 0 (((spr G w f k) 3 0) + 1)) 3 0 = ((spr G w f k) 3 0) + 1 := rfl; omega)) (cwV 3 F.2.2.2.2 gX0_putSpreading_X0_putCall rfl rfl rfl (by decide +kernel) ⟨Nat.le_of_ble_eq_true rfl, Nat.le_of_ble_eq_true rfl⟩) rfl rfl rfl rfl (Nat.le_of_ble_eq_true rfl) dX0_putSpreading_24 ?_
        rintro _ rfl
        refine x_iinc (v := nI ((f + k) + 1)) (lv' := [(0, .ref h), (1, .int (nI f)), (2, .int (nI ee)), (3, .int (nI w)), (4, .int (nI ((f + k) + 1)))]) (pc := 27) F dX0_putSpreading_27 4 rfl (nx_inc (b := 1) (f + k) (by decide)) (by decide) [1, 2, 3, 4, 0] rfl ?_
        refine x_goto (tgt := 3) (pc := 30) F dX0_putSpreading_30 (by decide) ?_
        refine x_lv [0, 1, 2, 3, 4] rfl ?_
        exact ih_3 (k + 1) (by omega) (by omega)
  refine x_lv [0, 1, 2, 3, 4] rfl ?_
  exact cut_3 ((ee + 1 - (f + 0)) + 1) 0 (by omega) (Nat.lt_succ_self _)
