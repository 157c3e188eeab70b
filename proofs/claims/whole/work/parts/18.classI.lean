set_option maxHeartbeats 4000000 in
set_option maxRecDepth 100000 in
theorem c_J13_bitCount_95d88 (l : Launch) (kn : Nat) (X : Nat → Nat) (hN : kn = pkN X 8) (hX : b8 X) (h0 : ∀ p, 8 ≤ p → X p = 0) : MSi l yJ13_bitCount_95d88 wsJ13_bitCount_95d88 ({ frames := 0, cells := 0, slots := 0, locals := 0 }) [.long (lN (kn))] (fun r => r = nI (sumP X 8)) := by
  have hy := y_all hX h0
  rw [← hN] at hy
  have hk64 : kn < 2 ^ 64 := hN ▸ pkN_lt 8 (b8_lt hX 8)
  have hz4 : y4 (y3 (y2 (y1 kn))) ≤ 2 * (y3 (y2 (y1 kn))) := by have := Nat.div_le_self (y3 (y2 (y1 kn))) (2 ^ 8); show y3 (y2 (y1 kn)) + (y3 (y2 (y1 kn))) / 2 ^ 8 ≤ _; omega
  have hz5 : y5 (y4 (y3 (y2 (y1 kn)))) ≤ 2 * (y4 (y3 (y2 (y1 kn)))) := by have := Nat.div_le_self (y4 (y3 (y2 (y1 kn)))) (2 ^ 16); show y4 (y3 (y2 (y1 kn))) + (y4 (y3 (y2 (y1 kn)))) / 2 ^ 16 ≤ _; omega
  refine x_sstarti (cc := cJ13_bitCount_95d88) (maxL := 2) (ret := (some .int)) (own := RJ13) (by decide) rfl rfl (Nat.le_of_ble_eq_true rfl) ?_
  intro p e s m args below meth c D F hr hlk Q0 hQ0
  refine x_lv (lv' := [(0, .long (lN (kn)))]) [0] rfl ?_
  have hk_314 : Cond.constantLong RJ13 314 (6148914691236517205) ∈ wsJ13_bitCount_95d88 := by decide +kernel
  have hk_316 : Cond.constantLong RJ13 316 (3689348814741910323) ∈ wsJ13_bitCount_95d88 := by decide +kernel
  have hk_318 : Cond.constantLong RJ13 318 (1085102592571150095) ∈ wsJ13_bitCount_95d88 := by decide +kernel
  refine x_lload_n (pc := 0) F dJ13_bitCount_95d88_0 0 rfl rfl ?_
  refine x_lload_n (pc := 1) F dJ13_bitCount_95d88_1 0 rfl rfl ?_
  refine x_iconst (v := nI 1) (pc := 2) F dJ13_bitCount_95d88_2 (by decide) ?_
  refine x_lushr (v := lN (kn / 2 ^ 1)) (pc := 3) F dJ13_bitCount_95d88_3 (wb_shr hk64 (by omega)) ?_
  refine x_ldc2 (v := lN 6148914691236517205) (pc := 4) F dJ13_bitCount_95d88_4 hk_314 ?_
  refine x_land (z := lN ((kn / 2 ^ 1) &&& 6148914691236517205)) (pc := 7) F dJ13_bitCount_95d88_7 (wb_and _ _) ?_
  refine x_lsub (pc := 8) F dJ13_bitCount_95d88_8 (lN_sub hy.1) ?_
  refine x_lstore_n (lv' := [(0, .long (lN (y1 kn)))]) (pc := 9) F dJ13_bitCount_95d88_9 rfl (by decide) [0] rfl ?_
  refine x_lload_n (pc := 10) F dJ13_bitCount_95d88_10 0 rfl rfl ?_
  refine x_ldc2 (v := lN 3689348814741910323) (pc := 11) F dJ13_bitCount_95d88_11 hk_316 ?_
  refine x_land (z := lN ((y1 kn) &&& 3689348814741910323)) (pc := 14) F dJ13_bitCount_95d88_14 (wb_and _ _) ?_
  refine x_lload_n (pc := 15) F dJ13_bitCount_95d88_15 0 rfl rfl ?_
  refine x_iconst (v := nI 2) (pc := 16) F dJ13_bitCount_95d88_16 (by decide) ?_
  refine x_lushr (v := lN ((y1 kn) / 2 ^ 2)) (pc := 17) F dJ13_bitCount_95d88_17 (wb_shr hy.2.1 (by omega)) ?_
  refine x_ldc2 (v := lN 3689348814741910323) (pc := 18) F dJ13_bitCount_95d88_18 hk_316 ?_
  refine x_land (z := lN (((y1 kn) / 2 ^ 2) &&& 3689348814741910323)) (pc := 21) F dJ13_bitCount_95d88_21 (wb_and _ _) ?_
  refine x_ladd (pc := 22) F dJ13_bitCount_95d88_22 (lN_add _ _) ?_
  refine x_lstore_n (lv' := [(0, .long (lN (y2 (y1 kn))))]) (pc := 23) F dJ13_bitCount_95d88_23 rfl (by decide) [0] rfl ?_
  refine x_lload_n (pc := 24) F dJ13_bitCount_95d88_24 0 rfl rfl ?_
  refine x_lload_n (pc := 25) F dJ13_bitCount_95d88_25 0 rfl rfl ?_
  refine x_iconst (v := nI 4) (pc := 26) F dJ13_bitCount_95d88_26 (by decide) ?_
  refine x_lushr (v := lN ((y2 (y1 kn)) / 2 ^ 4)) (pc := 27) F dJ13_bitCount_95d88_27 (wb_shr (Nat.lt_trans hy.2.2.1 (by decide)) (by omega)) ?_
  refine x_ladd (pc := 28) F dJ13_bitCount_95d88_28 (lN_add _ _) ?_
  refine x_ldc2 (v := lN 1085102592571150095) (pc := 29) F dJ13_bitCount_95d88_29 hk_318 ?_
  refine x_land (pc := 32) F dJ13_bitCount_95d88_32 (wb_and _ _) ?_
  refine x_lstore_n (lv' := [(0, .long (lN (y3 (y2 (y1 kn)))))]) (pc := 33) F dJ13_bitCount_95d88_33 rfl (by decide) [0] rfl ?_
  refine x_lload_n (pc := 34) F dJ13_bitCount_95d88_34 0 rfl rfl ?_
  refine x_lload_n (pc := 35) F dJ13_bitCount_95d88_35 0 rfl rfl ?_
  refine x_bipush (v := nI 8) (pc := 36) F dJ13_bitCount_95d88_36 (by decide) ?_
  refine x_lushr (v := lN ((y3 (y2 (y1 kn))) / 2 ^ 8)) (pc := 38) F dJ13_bitCount_95d88_38 (wb_shr (Nat.lt_trans hy.2.2.2.1 (by decide)) (by omega)) ?_
  refine x_ladd (pc := 39) F dJ13_bitCount_95d88_39 (lN_add _ _) ?_
  refine x_lstore_n (lv' := [(0, .long (lN (y4 (y3 (y2 (y1 kn))))))]) (pc := 40) F dJ13_bitCount_95d88_40 rfl (by decide) [0] rfl ?_
  refine x_lload_n (pc := 41) F dJ13_bitCount_95d88_41 0 rfl rfl ?_
  refine x_lload_n (pc := 42) F dJ13_bitCount_95d88_42 0 rfl rfl ?_
  refine x_bipush (v := nI 16) (pc := 43) F dJ13_bitCount_95d88_43 (by decide) ?_
  refine x_lushr (v := lN ((y4 (y3 (y2 (y1 kn)))) / 2 ^ 16)) (pc := 45) F dJ13_bitCount_95d88_45 (wb_shr (by omega) (by omega)) ?_
  refine x_ladd (pc := 46) F dJ13_bitCount_95d88_46 (lN_add _ _) ?_
  refine x_lstore_n (lv' := [(0, .long (lN (y5 (y4 (y3 (y2 (y1 kn)))))))]) (pc := 47) F dJ13_bitCount_95d88_47 rfl (by decide) [0] rfl ?_
  refine x_lload_n (pc := 48) F dJ13_bitCount_95d88_48 0 rfl rfl ?_
  refine x_lload_n (pc := 49) F dJ13_bitCount_95d88_49 0 rfl rfl ?_
  refine x_bipush (v := nI 32) (pc := 50) F dJ13_bitCount_95d88_50 (by decide) ?_
  refine x_lushr (v := lN ((y5 (y4 (y3 (y2 (y1 kn))))) / 2 ^ 32)) (pc := 52) F dJ13_bitCount_95d88_52 (wb_shr (by omega) (by omega)) ?_
  refine x_ladd (pc := 53) F dJ13_bitCount_95d88_53 (lN_add _ _) ?_
  refine x_lstore_n (lv' := [(0, .long (lN (y6 (y5 (y4 (y3 (y2 (y1 kn))))))))]) (pc := 54) F dJ13_bitCount_95d88_54 rfl (by decide) [0] rfl ?_
  refine x_lload_n (pc := 55) F dJ13_bitCount_95d88_55 0 rfl rfl ?_
  refine x_l2i (v := nI (y6 (y5 (y4 (y3 (y2 (y1 kn))))))) (pc := 56) F dJ13_bitCount_95d88_56 (lN_i _) ?_
  refine x_bipush (v := nI 127) (pc := 57) F dJ13_bitCount_95d88_57 (by decide) ?_
  refine x_iand (z := nI ((y6 (y5 (y4 (y3 (y2 (y1 kn)))))) &&& 127)) (pc := 59) F dJ13_bitCount_95d88_59 (nx_and (y6 (y5 (y4 (y3 (y2 (y1 kn)))))) 127) ?_
  exact x_sreti (pc := 60) F hr hlk hQ0 dJ13_bitCount_95d88_60 (congrArg nI hy.2.2.2.2)
set_option maxHeartbeats 4000000 in
set_option maxRecDepth 100000 in
theorem c_X0_bitsOfFloat (l : Launch) (v0 : UInt32) (w : Int32) (k0 : Nat) (hb0 : bfC w k0 v0 127 = true) : MSi l yX0_bitsOfFloat wsX0_bitsOfFloat ({ frames := 0, cells := 0, slots := 0, locals := 0 }) [.float (v0)] (fun r => r = w) := by
  refine x_sstarti (cc := cX0_bitsOfFloat) (maxL := 3) (ret := (some .int)) (own := RX0) (by decide) rfl rfl (Nat.le_of_ble_eq_true rfl) ?_
  intro p e s m args below meth c D F hr hlk Q0 hQ0
  refine x_lv (lv' := [(0, .float (v0))]) [0] rfl ?_
  have hk_217 : Cond.constantFloat RX0 217 (1258291200) ∈ wsX0_bitsOfFloat := by decide +kernel
  refine x_fload_n (pc := 0) F dX0_bitsOfFloat_0 0 rfl rfl ?_
  refine x_fstore_n (lv' := [(0, .float (v0)), (1, .float (v0))]) (pc := 1) F dX0_bitsOfFloat_1 rfl (by decide) [1, 0] rfl ?_
  refine x_bipush (v := nI 127) (pc := 2) F dX0_bitsOfFloat_2 (by decide) ?_
  refine x_istore_n (lv' := [(0, .float (v0)), (1, .float (v0)), (2, .int (nI 127))]) (pc := 4) F dX0_bitsOfFloat_4 rfl (by decide) [1, 2, 0] rfl ?_
  have cut_5 : ∀ (fu : Nat) (k : Nat) (v : UInt32) (x : Nat), (x ≤ 254) → (bfC w k v x = true) → (k) < fu → V p l e ({ frames := 0, cells := 0, slots := 0, locals := 0 }) s m args below meth c 3 0 0 Q0 (IW D (fun _ => False) s.heap []) 5 [(0, .float (v0)), (1, .float (v)), (2, .int (nI x))] [] := by
    intro fu
    induction fu with
    | zero => intro k v x hx hb hfu; exact absurd hfu (Nat.not_lt_zero _)
    | succ fu ih_5 =>
      intro k v x hx hb hfu
      refine x_fload_n (pc := 5) F dX0_bitsOfFloat_5 1 rfl rfl ?_
      refine x_fconst2 (pc := 6) F dX0_bitsOfFloat_6 ?_
      refine x_fcmp (pc := 7) F dX0_bitsOfFloat_7 rfl ?_
      refine x_if_lt (tgt := 28) (pc := 8) F dX0_bitsOfFloat_8 (by decide) (fun hc_8 => ?_) (fun hc_8 => ?_)
      · obtain ⟨hn2, hn3, he⟩ := bfC_f hb (Or.inl hc_8)
        refine x_iload_n (pc := 28) F dX0_bitsOfFloat_28 2 rfl rfl ?_
        refine x_bipush (v := nI 23) (pc := 29) F dX0_bitsOfFloat_29 (by decide) ?_
        refine x_ishl (pc := 31) F dX0_bitsOfFloat_31 rfl ?_
        refine x_fload_n (pc := 32) F dX0_bitsOfFloat_32 1 rfl rfl ?_
        refine x_fconst1 (pc := 33) F dX0_bitsOfFloat_33 ?_
        refine x_fsub (pc := 34) F dX0_bitsOfFloat_34 rfl hn2 ?_
        refine x_ldcf (pc := 35) F dX0_bitsOfFloat_35 hk_217 ?_
        refine x_fmul (pc := 37) F dX0_bitsOfFloat_37 rfl hn3 ?_
        refine x_f2i (pc := 38) F dX0_bitsOfFloat_38 rfl ?_
        refine x_ior (pc := 39) F dX0_bitsOfFloat_39 rfl ?_
        exact x_sreti (pc := 40) F hr hlk hQ0 dX0_bitsOfFloat_40 (he)
      · refine x_iload_n (pc := 11) F dX0_bitsOfFloat_11 2 rfl rfl ?_
        refine x_sipush (v := nI 254) (pc := 12) F dX0_bitsOfFloat_12 (by decide) ?_
        refine x_icmpN_ge (tgt := 28) (pc := 15) F dX0_bitsOfFloat_15 (by decide) (by omega) (by decide) (fun hc_15 => ?_) (fun hc_15 => ?_)
        · obtain ⟨hn2, hn3, he⟩ := bfC_f hb (Or.inr (by omega))
          refine x_iload_n (pc := 28) F dX0_bitsOfFloat_28 2 rfl rfl ?_
          refine x_bipush (v := nI 23) (pc := 29) F dX0_bitsOfFloat_29 (by decide) ?_
          refine x_ishl (pc := 31) F dX0_bitsOfFloat_31 rfl ?_
          refine x_fload_n (pc := 32) F dX0_bitsOfFloat_32 1 rfl rfl ?_
          refine x_fconst1 (pc := 33) F dX0_bitsOfFloat_33 ?_
          refine x_fsub (pc := 34) F dX0_bitsOfFloat_34 rfl hn2 ?_
          refine x_ldcf (pc := 35) F dX0_bitsOfFloat_35 hk_217 ?_
          refine x_fmul (pc := 37) F dX0_bitsOfFloat_37 rfl hn3 ?_
          refine x_f2i (pc := 38) F dX0_bitsOfFloat_38 rfl ?_
          refine x_ior (pc := 39) F dX0_bitsOfFloat_39 rfl ?_
          exact x_sreti (pc := 40) F hr hlk hQ0 dX0_bitsOfFloat_40 (he)
        · obtain ⟨k2, rfl, hn1, hb2⟩ := bfC_t hb hc_8 (by omega)
          refine x_fload_n (pc := 18) F dX0_bitsOfFloat_18 1 rfl rfl ?_
          refine x_fconst2 (pc := 19) F dX0_bitsOfFloat_19 ?_
          refine x_fdiv (pc := 20) F dX0_bitsOfFloat_20 rfl hn1 ?_
          refine x_fstore_n (lv' := [(0, .float (v0)), (1, .float (FP.fdiv v FP.fconst2)), (2, .int (nI x))]) (pc := 21) F dX0_bitsOfFloat_21 rfl (by decide) [1, 0, 2] rfl ?_
          refine x_iinc (v := nI (x + 1)) (lv' := [(0, .float (v0)), (1, .float (FP.fdiv v FP.fconst2)), (2, .int (nI (x + 1)))]) (pc := 22) F dX0_bitsOfFloat_22 2 rfl (nx_inc (b := 1) x (by decide)) (by decide) [1, 2, 0] rfl ?_
          refine x_goto (tgt := 5) (pc := 25) F dX0_bitsOfFloat_25 (by decide) ?_
          refine x_lv [0, 1, 2] rfl ?_
          exact ih_5 k2 (FP.fdiv v FP.fconst2) (x + 1) (by omega) hb2 (by omega)
  refine x_lv [0, 1, 2] rfl ?_
  exact cut_5 ((k0) + 1) k0 v0 127 (by decide) hb0 (Nat.lt_succ_self _)
set_option maxHeartbeats 4000000 in
set_option maxRecDepth 100000 in
theorem c_X0_averageBits (l : Launch) (G : GS) (L : Nat → Nat) (kn : Nat) (X : Nat → Nat) (hN : kn = pkN X (G 0 0)) (hX : ∀ p, p < G 0 0 → X p < 256) (hs1 : G 0 0 ≤ sumP X (G 0 0)) (hs2 : sumP X (G 0 0) ≤ 64) (h2 : 2 ≤ G 0 0) (h8 : G 0 0 ≤ 8) : MCi wX tX l yX0_averageBits wsX0_averageBits ({ frames := 1, cells := 0, slots := 0, locals := 22 }) [.long (lN (kn))] (G, L) (fun r u => u = (G, L) ∧ r = avV (G 0 0) (sumP X (G 0 0))) := by
  have hav := av_ok h2 h8 hs1 hs2
  refine x_starti (cc := cX0_averageBits) (maxL := 3) (ret := (some .int)) (own := RX0) (by decide) rfl rfl (fun _ => Nat.le_of_ble_eq_true rfl) ?_
  intro p e s m args below meth c D h q cs F hK hr hlk Q0 hQ0
  refine x_lv (lv' := [(0, .ref h), (1, .long (lN (kn)))]) [0, 1] rfl ?_
  have hin : ∀ w ∈ wsX00, w ∈ wsX0_averageBits := by decide +kernel
  have hm_personTotal : Cond.fieldLink RX0 9 "GossipSchedule" "personTotal" "I" ∈ wsX0_averageBits := by decide +kernel
  refine x_lload_n (pc := 0) F dX0_averageBits_0 1 rfl rfl ?_
  refine x_scalli (pc := 1) F [.long (lN (kn))] [] (c_J13_bitCount_95d88 l kn (cX (G 0 0) X) (hN.trans (c8_pk h8)) (c8 hX) (c8_0 h8)) (va_cwS 1 F.2.2.2.2 gX0_averageBits_J13_bitCount_95d88 rfl rfl rfl (by decide +kernel) ⟨Nat.le_of_ble_eq_true rfl, Nat.le_of_ble_eq_true rfl⟩) rfl rfl (Nat.le_of_ble_eq_true rfl) dX0_averageBits_1 ?_
  rintro _ rfl
  rw [c8_sum h8]
  refine x_i2f (pc := 4) F dX0_averageBits_4 rfl ?_
  refine x_aload_n (pc := 5) F dX0_averageBits_5 0 rfl rfl ?_
  refine gX_personTotal (v := G 0 0) (pc := 6) F hK hin hm_personTotal rfl dX0_averageBits_6 ?_
  refine x_i2f (pc := 9) F dX0_averageBits_9 rfl ?_
  refine x_fdiv (pc := 10) F dX0_averageBits_10 rfl hav.1 ?_
  refine x_scalli (pc := 11) F [.float (avF (G 0 0) (sumP X (G 0 0)))] [] (c_X0_bitsOfFloat l (avF (G 0 0) (sumP X (G 0 0))) (avV (G 0 0) (sumP X (G 0 0))) 8 hav.2.2) (va_cwS 1 F.2.2.2.2 gX0_averageBits_X0_bitsOfFloat rfl rfl rfl (by decide +kernel) ⟨Nat.le_of_ble_eq_true rfl, Nat.le_of_ble_eq_true rfl⟩) rfl rfl (Nat.le_of_ble_eq_true rfl) dX0_averageBits_11 ?_
  rintro _ rfl
  exact x_reti (w := wX) (ty := tX) (pc := 14) F hK hr hlk hQ0 dX0_averageBits_14 (⟨rfl, rfl⟩)
set_option maxHeartbeats 4000000 in
set_option maxRecDepth 100000 in
theorem c_X0_averageKnowledge (l : Launch) (G : GS) (L : Nat → Nat) (x : Int32) (hG : ok G) : MCi wX tX l yX0_averageKnowledge wsX0_averageKnowledge ({ frames := 2, cells := 0, slots := 0, locals := 53 }) [.int (x)] (G, L) (fun r u => u = (G, L) ∧ r = sp_avg G x) := by
  have hG0 := hG
  obtain ⟨b1, b2, b3, b4, b5, b6, b7, b8, b9, b10, b11⟩ := hG0
  refine x_starti (cc := cX0_averageKnowledge) (maxL := 2) (ret := (some .int)) (own := RX0) (by decide) rfl rfl (fun _ => Nat.le_of_ble_eq_true rfl) ?_
  intro p e s m args below meth c D h q cs F hK hr hlk Q0 hQ0
  refine x_lv (lv' := [(0, .ref h), (1, .int (x))]) [0, 1] rfl ?_
  have hin : ∀ w ∈ wsX00, w ∈ wsX0_averageKnowledge := by decide +kernel
  have hm_roundTotal : Cond.fieldLink RX0 55 "GossipSchedule" "roundTotal" "I" ∈ wsX0_averageKnowledge := by decide +kernel
  refine x_iload_n (pc := 0) F dX0_averageKnowledge_0 1 rfl rfl ?_
  refine x_ifT_lt (a := (x).toInt) (tgt := 12) (pc := 1) F dX0_averageKnowledge_1 (by decide) rfl (fun hc_1 => ?_) (fun hc_1 => ?_)
  · refine x_bipush (v := -5) (pc := 12) F dX0_averageKnowledge_12 (by decide) ?_
    exact x_reti (w := wX) (ty := tX) (pc := 14) F hK hr hlk hQ0 dX0_averageKnowledge_14 (⟨rfl, by rw [sp_avg, if_neg (by omega)]⟩)
  · refine x_iload_n (pc := 4) F dX0_averageKnowledge_4 1 rfl rfl ?_
    refine x_aload_n (pc := 5) F dX0_averageKnowledge_5 0 rfl rfl ?_
    refine gX_roundTotal (v := G 3 0) (pc := 6) F hK hin hm_roundTotal rfl dX0_averageKnowledge_6 ?_
    refine x_icmpT_le (a := (x).toInt) (b := ((G 3 0 : Nat) : Int)) (tgt := 15) (pc := 9) F dX0_averageKnowledge_9 (by decide) rfl (nI_toInt (by omega)) (fun hc_9 => ?_) (fun hc_9 => ?_)
    · obtain ⟨ja, h_ja, rfl⟩ := nI_ofR (x := x) (n := G 3 0 + 1) (by omega) (by omega)
      have e_ja : (nI ja).toInt = (ja : Int) := nI_toInt (by omega)
      refine x_aload_n (pc := 15) F dX0_averageKnowledge_15 0 rfl rfl ?_
      refine x_aload_n (pc := 16) F dX0_averageKnowledge_16 0 rfl rfl ?_
      refine x_iload_n (pc := 17) F dX0_averageKnowledge_17 1 rfl rfl ?_
      refine x_calll (w := wX) (ty := tX) (pc := 18) F hK wX_in [.int (nI ja)] [.ref h] (c_X0_knownAfterRounds l G L ja (by omega) hG) (cwV 1 F.2.2.2.2 gX0_averageKnowledge_X0_knownAfterRounds rfl rfl rfl (by decide +kernel) ⟨Nat.le_of_ble_eq_true rfl, Nat.le_of_ble_eq_true rfl⟩) rfl rfl rfl rfl (Nat.le_of_ble_eq_true rfl) dX0_averageKnowledge_18 ?_
      rintro _ _ ⟨rfl, rfl⟩
      have hX := kr_256 hG (rdF G ja) (c := G 4 0) (Nat.le_refl _)
      have hsm := kr_sum hG (rdF G ja)
      refine x_calli (w := wX) (ty := tX) (pc := 21) F hK wX_in [.long (lN (pkN (kr G (rdF G ja) (G 4 0)) (G 0 0)))] [] (c_X0_averageBits l G L (pkN (kr G (rdF G ja) (G 4 0)) (G 0 0)) (kr G (rdF G ja) (G 4 0)) rfl hX hsm.1 hsm.2 b1 b2) (cwV 1 F.2.2.2.2 gX0_averageKnowledge_X0_averageBits rfl rfl rfl (by decide +kernel) ⟨Nat.le_of_ble_eq_true rfl, Nat.le_of_ble_eq_true rfl⟩) rfl rfl rfl rfl (Nat.le_of_ble_eq_true rfl) dX0_averageKnowledge_21 ?_
      rintro _ _ ⟨rfl, rfl⟩
      exact x_reti (w := wX) (ty := tX) (pc := 24) F hK hr hlk hQ0 dX0_averageKnowledge_24 (⟨rfl, by rw [sp_avg, if_pos (by omega), toNat_nI (by omega)]⟩)
    · refine x_bipush (v := -5) (pc := 12) F dX0_averageKnowledge_12 (by decide) ?_
      exact x_reti (w := wX) (ty := tX) (pc := 14) F hK hr hlk hQ0 dX0_averageKnowledge_14 (⟨rfl, by rw [sp_avg, if_neg (by omega)]⟩)
