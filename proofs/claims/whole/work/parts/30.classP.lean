set_option maxHeartbeats 4000000 in
set_option maxRecDepth 100000 in
theorem c_X0_chanceOfMask (l : Launch) (G : GS) (L : Nat → Nat) (mN : Nat) (a b : UInt64) (hb : FP.dsub FP.dconst1 a = b) (hq : vf_n64 b) (hch : ∀ c, c ≤ G 4 0 → vf_n64 (chD a b mN c)) (hm : mN < 4096) (hC : G 4 0 ≤ 12) : MCd wX tX l yX0_chanceOfMask wsX0_chanceOfMask ({ frames := 0, cells := 0, slots := 0, locals := 0 }) [.int (nI mN), .double (a)] (G, L) (fun r u => u = (G, L) ∧ r = chD a b mN (G 4 0)) := by
  refine x_startd (cc := cX0_chanceOfMask) (maxL := 9) (ret := (some .double)) (own := RX0) (by decide) rfl rfl (fun _ => Nat.le_of_ble_eq_true rfl) ?_
  intro p e s m args below meth c D h q cs F hK hr hlk Q0 hQ0
  refine x_lv (lv' := [(0, .ref h), (1, .int (nI mN)), (2, .double (a))]) [0, 1, 2] rfl ?_
  have hin : ∀ w ∈ wsX00, w ∈ wsX0_chanceOfMask := by decide +kernel
  have hm_callTotal : Cond.fieldLink RX0 70 "GossipSchedule" "callTotal" "I" ∈ wsX0_chanceOfMask := by decide +kernel
  refine x_dconst1 (pc := 0) F dX0_chanceOfMask_0 ?_
  refine x_dload_n (pc := 1) F dX0_chanceOfMask_1 2 rfl rfl ?_
  refine x_dsub (pc := 2) F dX0_chanceOfMask_2 hb hq ?_
  refine x_dstore (lv' := [(0, .ref h), (1, .int (nI mN)), (2, .double (a)), (4, .double (b))]) (pc := 3) F dX0_chanceOfMask_3 (by decide) [1, 2, 3, 0] rfl ?_
  refine x_dconst1 (pc := 5) F dX0_chanceOfMask_5 ?_
  refine x_dstore (lv' := [(0, .ref h), (1, .int (nI mN)), (2, .double (a)), (4, .double (b)), (6, .double (FP.dconst1))]) (pc := 6) F dX0_chanceOfMask_6 (by decide) [1, 2, 3, 4, 0] rfl ?_
  refine x_iconst (v := nI 0) (pc := 8) F dX0_chanceOfMask_8 (by decide) ?_
  refine x_istore (lv' := [(0, .ref h), (1, .int (nI mN)), (2, .double (a)), (4, .double (b)), (6, .double (FP.dconst1)), (8, .int (nI 0))]) (pc := 9) F dX0_chanceOfMask_9 (by decide) [1, 2, 3, 4, 5, 0] rfl ?_
  have cut_11 : ∀ (fu : Nat) (i : Nat), (i ≤ G 4 0) → (G 4 0 - i) < fu → V p l e ({ frames := 0, cells := 0, slots := 0, locals := 0 }) s m args below meth c 9 0 0 Q0 (IC wX D h q cs s (G, L)) 11 [(0, .ref h), (1, .int (nI mN)), (2, .double (a)), (4, .double (b)), (6, .double (chD a b mN i)), (8, .int (nI i))] [] := by
    intro fu
    induction fu with
    | zero => intro i hi hfu; exact absurd hfu (Nat.not_lt_zero _)
    | succ fu ih_11 =>
      intro i hi hfu
      refine x_iload (pc := 11) F dX0_chanceOfMask_11 5 rfl ?_
      refine x_aload_n (pc := 13) F dX0_chanceOfMask_13 0 rfl rfl ?_
      refine gX_callTotal (v := G 4 0) (pc := 14) F hK hin hm_callTotal rfl dX0_chanceOfMask_14 ?_
      refine x_icmpN_ge (tgt := 47) (pc := 17) F dX0_chanceOfMask_17 (by decide) (by omega) (by omega) (fun hc_17 => ?_) (fun hc_17 => ?_)
      · refine x_dload (pc := 47) F dX0_chanceOfMask_47 4 rfl ?_
        exact x_retd (w := wX) (ty := tX) (pc := 49) F hK hr hlk hQ0 dX0_chanceOfMask_49 (⟨rfl, by rw [show i = G 4 0 by omega]⟩)
      · refine x_dload (pc := 20) F dX0_chanceOfMask_20 4 rfl ?_
        refine x_iload_n (pc := 22) F dX0_chanceOfMask_22 1 rfl rfl ?_
        refine x_iload (pc := 23) F dX0_chanceOfMask_23 5 rfl ?_
        refine x_ishr (z := nI (mN / 2 ^ i)) (pc := 25) F dX0_chanceOfMask_25 (nx_shr (by omega) (by omega)) ?_
        refine x_iconst (v := nI 1) (pc := 26) F dX0_chanceOfMask_26 (by decide) ?_
        refine x_iand (z := nI ((mN / 2 ^ i) &&& 1)) (pc := 27) F dX0_chanceOfMask_27 (nx_and (mN / 2 ^ i) 1) ?_
        refine x_iconst (v := nI 1) (pc := 28) F dX0_chanceOfMask_28 (by decide) ?_
        refine x_icmpN_ne (tgt := 36) (pc := 29) F dX0_chanceOfMask_29 (by decide) (and1_lt _) (by decide) (fun hc_29 => ?_) (fun hc_29 => ?_)
        · refine x_dload (pc := 36) F dX0_chanceOfMask_36 3 rfl ?_
          refine x_dmul (pc := 38) F dX0_chanceOfMask_38 (chD_f (fun z => hc_29 ((and1_tb _ _).mpr z))) (hch (i + 1) (by omega)) ?_
          refine x_dstore (lv' := [(0, .ref h), (1, .int (nI mN)), (2, .double (a)), (4, .double (b)), (6, .double (chD a b mN (i + 1))), (8, .int (nI i))]) (pc := 39) F dX0_chanceOfMask_39 (by decide) [1, 2, 3, 4, 0, 5] rfl ?_
          refine x_iinc (v := nI (i + 1)) (lv' := [(0, .ref h), (1, .int (nI mN)), (2, .double (a)), (4, .double (b)), (6, .double (chD a b mN (i + 1))), (8, .int (nI (i + 1)))]) (pc := 41) F dX0_chanceOfMask_41 5 rfl (nx_inc (b := 1) i (by decide)) (by decide) [1, 2, 3, 4, 5, 0] rfl ?_
          refine x_goto (tgt := 11) (pc := 44) F dX0_chanceOfMask_44 (by decide) ?_
          refine x_lv [0, 1, 2, 3, 4, 5] rfl ?_
          exact ih_11 (i + 1) (by omega) (by omega)
        · refine x_dload_n (pc := 32) F dX0_chanceOfMask_32 2 rfl rfl ?_
          refine x_goto (tgt := 38) (pc := 33) F dX0_chanceOfMask_33 (by decide) ?_
          refine x_dmul (pc := 38) F dX0_chanceOfMask_38 (chD_t ((and1_tb _ _).mp hc_29)) (hch (i + 1) (by omega)) ?_
          refine x_dstore (lv' := [(0, .ref h), (1, .int (nI mN)), (2, .double (a)), (4, .double (b)), (6, .double (chD a b mN (i + 1))), (8, .int (nI i))]) (pc := 39) F dX0_chanceOfMask_39 (by decide) [1, 2, 3, 4, 0, 5] rfl ?_
          refine x_iinc (v := nI (i + 1)) (lv' := [(0, .ref h), (1, .int (nI mN)), (2, .double (a)), (4, .double (b)), (6, .double (chD a b mN (i + 1))), (8, .int (nI (i + 1)))]) (pc := 41) F dX0_chanceOfMask_41 5 rfl (nx_inc (b := 1) i (by decide)) (by decide) [1, 2, 3, 4, 5, 0] rfl ?_
          refine x_goto (tgt := 11) (pc := 44) F dX0_chanceOfMask_44 (by decide) ?_
          refine x_lv [0, 1, 2, 3, 4, 5] rfl ?_
          exact ih_11 (i + 1) (by omega) (by omega)
  refine x_lv [0, 1, 2, 3, 4, 5] rfl ?_
  exact cut_11 ((G 4 0 - 0) + 1) 0 (Nat.zero_le _) (Nat.lt_succ_self _)
set_option maxHeartbeats 4000000 in
set_option maxRecDepth 100000 in
theorem c_X0_bitsOfDouble (l : Launch) (xx : UInt64) (hg : gD xx) : MSl l yX0_bitsOfDouble wsX0_bitsOfDouble ({ frames := 0, cells := 0, slots := 0, locals := 0 }) [.double (xx)] (fun r => r = xx.toInt64) := by
  refine x_sstartl (cc := cX0_bitsOfDouble) (maxL := 6) (ret := (some .long)) (own := RX0) (by decide) rfl rfl (Nat.le_of_ble_eq_true rfl) ?_
  intro p e s m args below meth c D F hr hlk Q0 hQ0
  refine x_lv (lv' := [(0, .double (xx))]) [0] rfl ?_
  have hk_218 : Cond.constantLong RX0 218 (1023) ∈ wsX0_bitsOfDouble := by decide +kernel
  have hk_220 : Cond.constantDouble RX0 220 (4611686018427387904) ∈ wsX0_bitsOfDouble := by decide +kernel
  have hk_222 : Cond.constantDouble RX0 222 (4841369599423283200) ∈ wsX0_bitsOfDouble := by decide +kernel
  refine x_dload_n (pc := 0) F dX0_bitsOfDouble_0 0 rfl rfl ?_
  refine x_dconst0 (pc := 1) F dX0_bitsOfDouble_1 ?_
  refine x_dcmp (pc := 2) F dX0_bitsOfDouble_2 rfl ?_
  refine x_if_gt (tgt := 8) (pc := 3) F dX0_bitsOfDouble_3 (by decide) (fun hc_3 => ?_) (fun hc_3 => ?_)
  · obtain ⟨E, T, hE1, hE2, hT, rfl⟩ := gD_p hg hc_3
    refine x_dload_n (pc := 8) F dX0_bitsOfDouble_8 0 rfl rfl ?_
    refine x_dstore_n (lv' := [(0, .double (dB E T)), (2, .double (dB E T))]) (pc := 9) F dX0_bitsOfDouble_9 rfl (by decide) [1, 0] rfl ?_
    refine x_ldc2 (v := lN 1023) (pc := 10) F dX0_bitsOfDouble_10 hk_218 ?_
    rw [show lN 1023 = lN (1023 - (E - E)) from congrArg lN (by omega)]
    refine x_lstore (lv' := [(0, .double (dB E T)), (2, .double (dB E T)), (4, .long (lN (1023 - (E - E))))]) (pc := 13) F dX0_bitsOfDouble_13 (by decide) [1, 2, 0] rfl ?_
    have cut_15 : ∀ (fu : Nat) (Ec : Nat), (E ≤ Ec) → (Ec ≤ 1023) → (1023 - Ec) < fu → V p l e ({ frames := 0, cells := 0, slots := 0, locals := 0 }) s m args below meth c 6 0 0 Q0 (IW D (fun _ => False) s.heap []) 15 [(0, .double (dB E T)), (2, .double (dB Ec T)), (4, .long (lN (1023 - (Ec - E))))] [] := by
      intro fu
      induction fu with
      | zero => intro Ec hEl hEh hfu; exact absurd hfu (Nat.not_lt_zero _)
      | succ fu ih_15 =>
        intro Ec hEl hEh hfu
        refine x_dload_n (pc := 15) F dX0_bitsOfDouble_15 1 rfl rfl ?_
        refine x_dconst1 (pc := 16) F dX0_bitsOfDouble_16 ?_
        refine x_dcmp (pc := 17) F dX0_bitsOfDouble_17 rfl ?_
        refine x_if_ge (tgt := 43) (pc := 18) F dX0_bitsOfDouble_18 (by decide) (fun hc_18 => ?_) (fun hc_18 => ?_)
        · obtain rfl := dB_ge (by omega) (by omega) hT hc_18
          refine x_lload (pc := 43) F dX0_bitsOfDouble_43 2 rfl ?_
          refine x_bipush (v := nI 52) (pc := 45) F dX0_bitsOfDouble_45 (by decide) ?_
          refine x_lshl (v := lN ((1023 - (1023 - E)) * 2 ^ 52)) (pc := 47) F dX0_bitsOfDouble_47 (wb_shl _ (by omega)) ?_
          refine x_dload_n (pc := 48) F dX0_bitsOfDouble_48 1 rfl rfl ?_
          refine x_dconst1 (pc := 49) F dX0_bitsOfDouble_49 ?_
          refine x_dsub (pc := 50) F dX0_bitsOfDouble_50 rfl (dB_sub hT) ?_
          refine x_ldc2d (pc := 51) F dX0_bitsOfDouble_51 hk_222 ?_
          refine x_dmul (pc := 54) F dX0_bitsOfDouble_54 rfl (dB_m52 hT) ?_
          refine x_d2l (pc := 55) F dX0_bitsOfDouble_55 (dB_d2l hT) ?_
          refine x_lor (z := lN (((1023 - (1023 - E)) * 2 ^ 52) ||| T)) (pc := 56) F dX0_bitsOfDouble_56 (wb_or _ _) ?_
          exact x_sretl (pc := 57) F hr hlk hQ0 dX0_bitsOfDouble_57 (by rw [show 1023 - (1023 - E) = E by omega]; exact dB_bits hE2 hT)
        · have hEc := dB_lt (by omega) (by omega) hT hc_18
          refine x_lload (pc := 21) F dX0_bitsOfDouble_21 2 rfl ?_
          refine x_lconst (v := lN 1) (pc := 23) F dX0_bitsOfDouble_23 (by decide) ?_
          refine x_lcmp (pc := 24) F dX0_bitsOfDouble_24 rfl ?_
          refine x_ifL_le (tgt := 43) (pc := 25) F dX0_bitsOfDouble_25 (by decide) (by omega) (by decide) (fun hc_25 => absurd hc_25 (by omega)) (fun hc_25 => ?_)
          refine x_dload_n (pc := 28) F dX0_bitsOfDouble_28 1 rfl rfl ?_
          refine x_ldc2d (pc := 29) F dX0_bitsOfDouble_29 hk_220 ?_
          refine x_dmul (pc := 32) F dX0_bitsOfDouble_32 (dB_mul (by omega) hEc hT) (dB_n (by omega) hT) ?_
          refine x_dstore_n (lv' := [(0, .double (dB E T)), (2, .double (dB (Ec + 1) T)), (4, .long (lN (1023 - (Ec - E))))]) (pc := 33) F dX0_bitsOfDouble_33 rfl (by decide) [1, 0, 2] rfl ?_
          refine x_lload (pc := 34) F dX0_bitsOfDouble_34 2 rfl ?_
          refine x_lconst (v := lN 1) (pc := 36) F dX0_bitsOfDouble_36 (by decide) ?_
          refine x_lsub (pc := 37) F dX0_bitsOfDouble_37 ((lN_sub (a := 1023 - (Ec - E)) (b := 1) (by omega)).trans (congrArg lN (show 1023 - (Ec - E) - 1 = 1023 - (Ec + 1 - E) by omega))) ?_
          refine x_lstore (lv' := [(0, .double (dB E T)), (2, .double (dB (Ec + 1) T)), (4, .long (lN (1023 - (Ec + 1 - E))))]) (pc := 38) F dX0_bitsOfDouble_38 (by decide) [1, 2, 0] rfl ?_
          refine x_goto (tgt := 15) (pc := 40) F dX0_bitsOfDouble_40 (by decide) ?_
          refine x_lv [0, 1, 2] rfl ?_
          exact ih_15 (Ec + 1) (by omega) (by omega) (by omega)
    refine x_lv [0, 1, 2] rfl ?_
    exact cut_15 ((1023 - E) + 1) E (Nat.le_refl _) hE2 (Nat.lt_succ_self _)
  · refine x_lconst (v := lN 0) (pc := 6) F dX0_bitsOfDouble_6 (by decide) ?_
    exact x_sretl (pc := 7) F hr hlk hQ0 dX0_bitsOfDouble_7 (by rw [gD_z hg hc_3]; rfl)
set_option maxHeartbeats 4000000 in
set_option maxRecDepth 100000 in
theorem c_X0_successProbability (l : Launch) (G : GS) (L : Nat → Nat) (x : Int32) (hG : ok G) : MCl wX tX l yX0_successProbability wsX0_successProbability ({ frames := 2, cells := 0, slots := 0, locals := 52 }) [.int (x)] (G, L) (fun r u => ∃ L', u = (G, L') ∧ r = sp_prob G x) := by
  have hG0 := hG
  obtain ⟨b1, b2, b3, b4, b5, b6, b7, b8, b9, b10, b11⟩ := hG0
  refine x_startl (cc := cX0_successProbability) (maxL := 10) (ret := (some .long)) (own := RX0) (by decide) rfl rfl (fun _ => Nat.le_of_ble_eq_true rfl) ?_
  intro p e s m args below meth c D h q cs F hK hr hlk Q0 hQ0
  refine x_lv (lv' := [(0, .ref h), (1, .int (x))]) [0, 1] rfl ?_
  have hin : ∀ w ∈ wsX00, w ∈ wsX0_successProbability := by decide +kernel
  have hm_callTotal : Cond.fieldLink RX0 70 "GossipSchedule" "callTotal" "I" ∈ wsX0_successProbability := by decide +kernel
  have hm_knownAfterMask : Cond.fieldLink RX0 36 "GossipSchedule" "knownAfterMask" "[J" ∈ wsX0_successProbability := by decide +kernel
  have hk_147 : Cond.constantLong RX0 147 (-5) ∈ wsX0_successProbability := by decide +kernel
  have hk_149 : Cond.constantLong RX0 149 (-15) ∈ wsX0_successProbability := by decide +kernel
  have hk_151 : Cond.constantDouble RX0 151 (4636737291354636288) ∈ wsX0_successProbability := by decide +kernel
  refine x_iload_n (pc := 0) F dX0_successProbability_0 1 rfl rfl ?_
  refine x_ifT_lt (a := (x).toInt) (tgt := 10) (pc := 1) F dX0_successProbability_1 (by decide) rfl (fun hc_1 => ?_) (fun hc_1 => ?_)
  · refine x_ldc2 (pc := 10) F dX0_successProbability_10 hk_147 ?_
    exact x_retl (w := wX) (ty := tX) (pc := 13) F hK hr hlk hQ0 dX0_successProbability_13 (⟨L, rfl, by rw [sp_prob, if_neg (by omega)]⟩)
  · refine x_iload_n (pc := 4) F dX0_successProbability_4 1 rfl rfl ?_
    refine x_bipush (v := nI 100) (pc := 5) F dX0_successProbability_5 (by decide) ?_
    refine x_icmpT_le (a := (x).toInt) (b := ((100 : Nat) : Int)) (tgt := 14) (pc := 7) F dX0_successProbability_7 (by decide) rfl (nI_toInt (by omega)) (fun hc_7 => ?_) (fun hc_7 => ?_)
    · obtain ⟨ja, h_ja, rfl⟩ := nI_ofR (x := x) (n := 101) (by omega) (by omega)
      have e_ja : (nI ja).toInt = (ja : Int) := nI_toInt (by omega)
      refine x_aload_n (pc := 14) F dX0_successProbability_14 0 rfl rfl ?_
      refine gX_callTotal (v := G 4 0) (pc := 15) F hK hin hm_callTotal rfl dX0_successProbability_15 ?_
      refine x_bipush (v := nI 12) (pc := 18) F dX0_successProbability_18 (by decide) ?_
      refine x_icmpN_le (tgt := 27) (pc := 20) F dX0_successProbability_20 (by decide) (by omega) (by decide) (fun hc_20 => ?_) (fun hc_20 => ?_)
      · refine x_aload_n (pc := 27) F dX0_successProbability_27 0 rfl rfl ?_
        refine x_callv (w := wX) (ty := tX) (pc := 28) F hK wX_in [] [] (c_X0_fillKnownAfterMasks l G L (by omega) hG) (cwV 0 F.2.2.2.2 gX0_successProbability_X0_fillKnownAfterMasks rfl rfl rfl (by decide +kernel) ⟨Nat.le_of_ble_eq_true rfl, Nat.le_of_ble_eq_true rfl⟩) rfl rfl rfl rfl (Nat.le_of_ble_eq_true rfl) dX0_successProbability_28 ?_
        rintro _ ⟨L9, rfl, hmk9⟩
        refine x_aload_n (pc := 31) F dX0_successProbability_31 0 rfl rfl ?_
        refine x_calll (w := wX) (ty := tX) (pc := 32) F hK wX_in [] [] (c_X0_everythingKnown l G L9 (by omega)) (cwV 0 F.2.2.2.2 gX0_successProbability_X0_everythingKnown rfl rfl rfl (by decide +kernel) ⟨Nat.le_of_ble_eq_true rfl, Nat.le_of_ble_eq_true rfl⟩) rfl rfl rfl rfl (Nat.le_of_ble_eq_true rfl) dX0_successProbability_32 ?_
        rintro _ _ ⟨rfl, rfl⟩
        refine x_lstore_n (lv' := [(0, .ref h), (1, .int (nI ja)), (2, .long (lN (evN (G 0 0))))]) (pc := 35) F dX0_successProbability_35 rfl (by decide) [1, 2, 0] rfl ?_
        refine x_iconst (v := nI 1) (pc := 36) F dX0_successProbability_36 (by decide) ?_
        refine x_aload_n (pc := 37) F dX0_successProbability_37 0 rfl rfl ?_
        refine gX_callTotal (v := G 4 0) (pc := 38) F hK hin hm_callTotal rfl dX0_successProbability_38 ?_
        refine x_ishl (z := nI (1 * 2 ^ (G 4 0))) (pc := 41) F dX0_successProbability_41 (nx_shl (by omega) (two_12 (by omega))) ?_
        refine x_istore (lv' := [(0, .ref h), (1, .int (nI ja)), (2, .long (lN (evN (G 0 0)))), (4, .int (nI (1 * 2 ^ (G 4 0))))]) (pc := 42) F dX0_successProbability_42 (by decide) [1, 2, 3, 0] rfl ?_
        obtain ⟨mk, hmk⟩ : ∃ z, z = 1 * 2 ^ G 4 0 := ⟨_, rfl⟩
        have hmb : mk ≤ 4096 := hmk ▸ pow_12 (by omega)
        have hmk2 : mk = 2 ^ G 4 0 := hmk.trans (Nat.one_mul _)
        rw [← hmk]
        refine x_iload_n (pc := 44) F dX0_successProbability_44 1 rfl rfl ?_
        refine x_i2d (pc := 45) F dX0_successProbability_45 rfl ?_
        refine x_ldc2d (pc := 46) F dX0_successProbability_46 hk_151 ?_
        refine x_ddiv (pc := 49) F dX0_successProbability_49 rfl (fl_p (by omega)) ?_
        refine x_dstore (lv' := [(0, .ref h), (1, .int (nI ja)), (2, .long (lN (evN (G 0 0)))), (4, .int (nI mk)), (5, .double (pD ja))]) (pc := 50) F dX0_successProbability_50 (by decide) [1, 2, 3, 4, 0] rfl ?_
        refine x_dconst0 (pc := 52) F dX0_successProbability_52 ?_
        refine x_dstore (lv' := [(0, .ref h), (1, .int (nI ja)), (2, .long (lN (evN (G 0 0)))), (4, .int (nI mk)), (5, .double (pD ja)), (7, .double (FP.dconst0))]) (pc := 53) F dX0_successProbability_53 (by decide) [1, 2, 3, 4, 5, 0] rfl ?_
        refine x_iconst (v := nI 0) (pc := 55) F dX0_successProbability_55 (by decide) ?_
        refine x_istore (lv' := [(0, .ref h), (1, .int (nI ja)), (2, .long (lN (evN (G 0 0)))), (4, .int (nI mk)), (5, .double (pD ja)), (7, .double (FP.dconst0)), (9, .int (nI 0))]) (pc := 56) F dX0_successProbability_56 (by decide) [1, 2, 3, 4, 5, 6, 0] rfl ?_
        have cut_58 : ∀ (fu : Nat) (k : Nat), (k ≤ mk) → (mk - k) < fu → V p l e ({ frames := 2, cells := 0, slots := 0, locals := 52 }) s m args below meth c 10 0 0 Q0 (IC wX D h q cs s (G, L9)) 58 [(0, .ref h), (1, .int (nI ja)), (2, .long (lN (evN (G 0 0)))), (4, .int (nI mk)), (5, .double (pD ja)), (7, .double (prF G ja k)), (9, .int (nI k))] [] := by
          intro fu
          induction fu with
          | zero => intro k hk hfu; exact absurd hfu (Nat.not_lt_zero _)
          | succ fu ih_58 =>
            intro k hk hfu
            refine x_iload (pc := 58) F dX0_successProbability_58 6 rfl ?_
            refine x_iload (pc := 60) F dX0_successProbability_60 3 rfl ?_
            refine x_icmpN_ge (tgt := 96) (pc := 62) F dX0_successProbability_62 (by decide) (by omega) (by omega) (fun hc_62 => ?_) (fun hc_62 => ?_)
            · obtain rfl : k = 2 ^ G 4 0 := by omega
              have hgd := fl_good (G := G) (k := ja) (by omega) (by omega)
              refine x_dload (pc := 96) F dX0_successProbability_96 5 rfl ?_
              refine x_scalll (pc := 98) F [.double (prF G ja (2 ^ G 4 0))] [] (c_X0_bitsOfDouble l (prF G ja (2 ^ G 4 0)) hgd) (va_cwS 1 F.2.2.2.2 gX0_successProbability_X0_bitsOfDouble rfl rfl rfl (by decide +kernel) ⟨Nat.le_of_ble_eq_true rfl, Nat.le_of_ble_eq_true rfl⟩) rfl rfl (Nat.le_of_ble_eq_true rfl) dX0_successProbability_98 ?_
              rintro _ rfl
              exact x_retl (w := wX) (ty := tX) (pc := 101) F hK hr hlk hQ0 dX0_successProbability_101 (⟨L9, rfl, by rw [sp_prob, if_pos (by omega), if_neg (by omega), toNat_nI (by omega)]⟩)
            · have hX := kr_256 hG (tbF k) (c := G 4 0) (Nat.le_refl _)
              have hful := pk_full (X := kr G (tbF k) (G 4 0)) b2 hX
              refine x_aload_n (pc := 65) F dX0_successProbability_65 0 rfl rfl ?_
              refine gX_knownAfterMask (pc := 66) F hK hin hm_knownAfterMask dX0_successProbability_66 ?_
              refine x_iload (pc := 69) F dX0_successProbability_69 6 rfl ?_
              refine lX_knownAfterMask (v := pkN (kr G (tbF k) (G 4 0)) (G 0 0)) (pc := 71) F hK dX0_successProbability_71 (by omega) (hmk9 k (by omega)) ?_
              refine x_lload_n (pc := 72) F dX0_successProbability_72 2 rfl rfl ?_
              refine x_lcmp (pc := 73) F dX0_successProbability_73 rfl ?_
              refine x_ifL_ne (tgt := 90) (pc := 74) F dX0_successProbability_74 (by decide) (pk_64 b2 hX) (pk_64 b2 (ev_256 b2)) (fun hc_74 => ?_) (fun hc_74 => ?_)
              · rw [show prF G ja k = prF G ja (k + 1) from (prF_f (fun z => hc_74 (hful.mpr z))).symm]
                refine x_iinc (v := nI (k + 1)) (lv' := [(0, .ref h), (1, .int (nI ja)), (2, .long (lN (evN (G 0 0)))), (4, .int (nI mk)), (5, .double (pD ja)), (7, .double (prF G ja (k + 1))), (9, .int (nI (k + 1)))]) (pc := 90) F dX0_successProbability_90 6 rfl (nx_inc (b := 1) k (by decide)) (by decide) [1, 2, 3, 4, 5, 6, 0] rfl ?_
                refine x_goto (tgt := 58) (pc := 93) F dX0_successProbability_93 (by decide) ?_
                refine x_lv [0, 1, 2, 3, 4, 5, 6] rfl ?_
                exact ih_58 (k + 1) (by omega) (by omega)
              · refine x_dload (pc := 77) F dX0_successProbability_77 5 rfl ?_
                refine x_aload_n (pc := 79) F dX0_successProbability_79 0 rfl rfl ?_
                refine x_iload (pc := 80) F dX0_successProbability_80 6 rfl ?_
                refine x_dload (pc := 82) F dX0_successProbability_82 4 rfl ?_
                refine x_calld (w := wX) (ty := tX) (pc := 84) F hK wX_in [.int (nI k), .double (pD ja)] [.double (prF G ja k)] (c_X0_chanceOfMask l G L9 k (pD ja) (qD ja) rfl (fl_q (by omega)) (fun c hc => fl_ch (by omega) _ (by omega)) (by omega) (by omega)) (cwV 2 F.2.2.2.2 gX0_successProbability_X0_chanceOfMask rfl rfl rfl (by decide +kernel) ⟨Nat.le_of_ble_eq_true rfl, Nat.le_of_ble_eq_true rfl⟩) rfl rfl rfl rfl (Nat.le_of_ble_eq_true rfl) dX0_successProbability_84 ?_
                rintro _ _ ⟨rfl, rfl⟩
                refine x_dadd (pc := 87) F dX0_successProbability_87 (prF_t (hful.mp hc_74)) (fl_pr (by omega) (by omega) (by omega)) ?_
                refine x_dstore (lv' := [(0, .ref h), (1, .int (nI ja)), (2, .long (lN (evN (G 0 0)))), (4, .int (nI mk)), (5, .double (pD ja)), (7, .double (prF G ja (k + 1))), (9, .int (nI k))]) (pc := 88) F dX0_successProbability_88 (by decide) [1, 2, 3, 4, 5, 0, 6] rfl ?_
                refine x_iinc (v := nI (k + 1)) (lv' := [(0, .ref h), (1, .int (nI ja)), (2, .long (lN (evN (G 0 0)))), (4, .int (nI mk)), (5, .double (pD ja)), (7, .double (prF G ja (k + 1))), (9, .int (nI (k + 1)))]) (pc := 90) F dX0_successProbability_90 6 rfl (nx_inc (b := 1) k (by decide)) (by decide) [1, 2, 3, 4, 5, 6, 0] rfl ?_
                refine x_goto (tgt := 58) (pc := 93) F dX0_successProbability_93 (by decide) ?_
                refine x_lv [0, 1, 2, 3, 4, 5, 6] rfl ?_
                exact ih_58 (k + 1) (by omega) (by omega)
        refine x_lv [0, 1, 2, 3, 4, 5, 6] rfl ?_
        exact cut_58 ((mk - 0) + 1) 0 (Nat.zero_le _) (Nat.lt_succ_self _)
      · refine x_ldc2 (pc := 23) F dX0_successProbability_23 hk_149 ?_
        exact x_retl (w := wX) (ty := tX) (pc := 26) F hK hr hlk hQ0 dX0_successProbability_26 (⟨L, rfl, by rw [sp_prob, if_pos (by omega), if_pos (by omega)]⟩)
    · refine x_ldc2 (pc := 10) F dX0_successProbability_10 hk_147 ?_
      exact x_retl (w := wX) (ty := tX) (pc := 13) F hK hr hlk hQ0 dX0_successProbability_13 (⟨L, rfl, by rw [sp_prob, if_neg (by omega)]⟩)
set_option maxHeartbeats 4000000 in
set_option maxRecDepth 100000 in
theorem c_X0_mix (l : Launch) (hh xx : Int64) : MSl l yX0_mix wsX0_mix ({ frames := 0, cells := 0, slots := 0, locals := 0 }) [.long (hh), .long (xx)] (fun r => r = mx hh xx) := by
  refine x_sstartl (cc := cX0_mix) (maxL := 4) (ret := (some .long)) (own := RX0) (by decide) rfl rfl (Nat.le_of_ble_eq_true rfl) ?_
  intro p e s m args below meth c D F hr hlk Q0 hQ0
  refine x_lv (lv' := [(0, .long (hh)), (2, .long (xx))]) [0, 1] rfl ?_
  have hk_224 : Cond.constantLong RX0 224 (31) ∈ wsX0_mix := by decide +kernel
  refine x_ldc2 (v := lN 31) (pc := 0) F dX0_mix_0 hk_224 ?_
  refine x_lload_n (pc := 3) F dX0_mix_3 0 rfl rfl ?_
  refine x_lmul (pc := 4) F dX0_mix_4 rfl ?_
  refine x_lload_n (pc := 5) F dX0_mix_5 1 rfl rfl ?_
  refine x_ladd (pc := 6) F dX0_mix_6 rfl ?_
  exact x_sretl (pc := 7) F hr hlk hQ0 dX0_mix_7 (rfl)
set_option maxHeartbeats 4000000 in
set_option maxRecDepth 100000 in
theorem c_X0_mixCalls (l : Launch) (G : GS) (L : Nat → Nat) (hh : Int64) (hG : ok G) : MCl wX tX l yX0_mixCalls wsX0_mixCalls ({ frames := 4, cells := 0, slots := 0, locals := 94 }) [.long (hh)] (G, L) (fun r u => u = (G, L) ∧ r = mcF G hh (G 4 0)) := by
  have hG0 := hG
  obtain ⟨b1, b2, b3, b4, b5, b6, b7, b8, b9, b10, b11⟩ := hG0
  refine x_startl (cc := cX0_mixCalls) (maxL := 6) (ret := (some .long)) (own := RX0) (by decide) rfl rfl (fun _ => Nat.le_of_ble_eq_true rfl) ?_
  intro p e s m args below meth c D h q cs F hK hr hlk Q0 hQ0
  refine x_lv (lv' := [(0, .ref h), (1, .long (hh))]) [0, 1] rfl ?_
  have hin : ∀ w ∈ wsX00, w ∈ wsX0_mixCalls := by decide +kernel
  have hm_callTotal : Cond.fieldLink RX0 70 "GossipSchedule" "callTotal" "I" ∈ wsX0_mixCalls := by decide +kernel
  refine x_lload_n (pc := 0) F dX0_mixCalls_0 1 rfl rfl ?_
  refine x_lstore_n (lv' := [(0, .ref h), (1, .long (hh)), (3, .long (hh))]) (pc := 1) F dX0_mixCalls_1 rfl (by decide) [1, 2, 0] rfl ?_
  refine x_iconst (v := nI 0) (pc := 2) F dX0_mixCalls_2 (by decide) ?_
  refine x_istore (lv' := [(0, .ref h), (1, .long (hh)), (3, .long (hh)), (5, .int (nI 0))]) (pc := 3) F dX0_mixCalls_3 (by decide) [1, 2, 3, 0] rfl ?_
  have cut_5 : ∀ (fu : Nat) (i : Nat), (i ≤ G 4 0) → (G 4 0 - i) < fu → V p l e ({ frames := 4, cells := 0, slots := 0, locals := 94 }) s m args below meth c 6 0 0 Q0 (IC wX D h q cs s (G, L)) 5 [(0, .ref h), (1, .long (hh)), (3, .long (mcF G hh i)), (5, .int (nI i))] [] := by
    intro fu
    induction fu with
    | zero => intro i hi hfu; exact absurd hfu (Nat.not_lt_zero _)
    | succ fu ih_5 =>
      intro i hi hfu
      refine x_iload (pc := 5) F dX0_mixCalls_5 3 rfl ?_
      refine x_aload_n (pc := 7) F dX0_mixCalls_7 0 rfl rfl ?_
      refine gX_callTotal (v := G 4 0) (pc := 8) F hK hin hm_callTotal rfl dX0_mixCalls_8 ?_
      refine x_icmpN_ge (tgt := 44) (pc := 11) F dX0_mixCalls_11 (by decide) (by omega) (by omega) (fun hc_11 => ?_) (fun hc_11 => ?_)
      · refine x_lload_n (pc := 44) F dX0_mixCalls_44 2 rfl rfl ?_
        exact x_retl (w := wX) (ty := tX) (pc := 45) F hK hr hlk hQ0 dX0_mixCalls_45 (⟨rfl, by rw [show i = G 4 0 by omega]⟩)
      · have hj := b8 i (by omega)
        have hds : dsN G i < 100000 := by unfold dsN; omega
        have hbc := bN_lt (crit G i)
        refine x_lload_n (pc := 14) F dX0_mixCalls_14 2 rfl rfl ?_
        refine x_aload_n (pc := 15) F dX0_mixCalls_15 0 rfl rfl ?_
        refine x_iload (pc := 16) F dX0_mixCalls_16 3 rfl ?_
        refine x_calli (w := wX) (ty := tX) (pc := 18) F hK wX_in [.int (nI i)] [.long (mcF G hh i)] (c_X0_describeCall l G L (nI i) hG) (cwV 1 F.2.2.2.2 gX0_mixCalls_X0_describeCall rfl rfl rfl (by decide +kernel) ⟨Nat.le_of_ble_eq_true rfl, Nat.le_of_ble_eq_true rfl⟩) rfl rfl rfl rfl (Nat.le_of_ble_eq_true rfl) dX0_mixCalls_18 ?_
        rintro _ _ ⟨rfl, rfl⟩
        rw [sp_desc_nI (by omega) b6]
        refine x_i2l (v := lN (dsN G i)) (pc := 21) F dX0_mixCalls_21 (nI_l (by omega)) ?_
        refine x_scalll (pc := 22) F [.long (mcF G hh i), .long (lN (dsN G i))] [] (c_X0_mix l (mcF G hh i) (lN (dsN G i))) (va_cwS 2 F.2.2.2.2 gX0_mixCalls_X0_mix rfl rfl rfl (by decide +kernel) ⟨Nat.le_of_ble_eq_true rfl, Nat.le_of_ble_eq_true rfl⟩) rfl rfl (Nat.le_of_ble_eq_true rfl) dX0_mixCalls_22 ?_
        rintro _ rfl
        refine x_lstore_n (lv' := [(0, .ref h), (1, .long (hh)), (3, .long (mx (mcF G hh i) (lN (dsN G i)))), (5, .int (nI i))]) (pc := 25) F dX0_mixCalls_25 rfl (by decide) [1, 2, 0, 3] rfl ?_
        refine x_lload_n (pc := 26) F dX0_mixCalls_26 2 rfl rfl ?_
        refine x_aload_n (pc := 27) F dX0_mixCalls_27 0 rfl rfl ?_
        refine x_iload (pc := 28) F dX0_mixCalls_28 3 rfl ?_
        refine x_calli (w := wX) (ty := tX) (pc := 30) F hK wX_in [.int (nI i)] [.long (mx (mcF G hh i) (lN (dsN G i)))] (c_X0_isCritical l G L (nI i) hG) (cwV 1 F.2.2.2.2 gX0_mixCalls_X0_isCritical rfl rfl rfl (by decide +kernel) ⟨Nat.le_of_ble_eq_true rfl, Nat.le_of_ble_eq_true rfl⟩) rfl rfl rfl rfl (Nat.le_of_ble_eq_true rfl) dX0_mixCalls_30 ?_
        rintro _ _ ⟨rfl, rfl⟩
        rw [sp_crit_nI (by omega) b6]
        refine x_i2l (v := lN (bN (crit G i))) (pc := 33) F dX0_mixCalls_33 (nI_l (by omega)) ?_
        refine x_scalll (pc := 34) F [.long (mx (mcF G hh i) (lN (dsN G i))), .long (lN (bN (crit G i)))] [] (c_X0_mix l (mx (mcF G hh i) (lN (dsN G i))) (lN (bN (crit G i)))) (va_cwS 2 F.2.2.2.2 gX0_mixCalls_X0_mix rfl rfl rfl (by decide +kernel) ⟨Nat.le_of_ble_eq_true rfl, Nat.le_of_ble_eq_true rfl⟩) rfl rfl (Nat.le_of_ble_eq_true rfl) dX0_mixCalls_34 ?_
        rintro _ rfl
        refine x_lstore_n (lv' := [(0, .ref h), (1, .long (hh)), (3, .long (mx (mx (mcF G hh i) (lN (dsN G i))) (lN (bN (crit G i))))), (5, .int (nI i))]) (pc := 37) F dX0_mixCalls_37 rfl (by decide) [1, 2, 0, 3] rfl ?_
        refine x_iinc (v := nI (i + 1)) (lv' := [(0, .ref h), (1, .long (hh)), (3, .long (mx (mx (mcF G hh i) (lN (dsN G i))) (lN (bN (crit G i))))), (5, .int (nI (i + 1)))]) (pc := 38) F dX0_mixCalls_38 3 rfl (nx_inc (b := 1) i (by decide)) (by decide) [1, 2, 3, 0] rfl ?_
        refine x_goto (tgt := 5) (pc := 41) F dX0_mixCalls_41 (by decide) ?_
        refine x_lv [0, 1, 2, 3] rfl ?_
        exact ih_5 (i + 1) (by omega) (by omega)
  refine x_lv [0, 1, 2, 3] rfl ?_
  exact cut_5 ((G 4 0 - 0) + 1) 0 (Nat.zero_le _) (Nat.lt_succ_self _)
set_option maxHeartbeats 4000000 in
set_option maxRecDepth 100000 in
theorem c_X0_mixKnowledge (l : Launch) (G : GS) (L : Nat → Nat) (hh : Int64) (hG : ok G) : MCl wX tX l yX0_mixKnowledge wsX0_mixKnowledge ({ frames := 2, cells := 0, slots := 0, locals := 53 }) [.long (hh)] (G, L) (fun r u => u = (G, L) ∧ r = mkR G hh (G 3 0 + 1)) := by
  have hG0 := hG
  obtain ⟨b1, b2, b3, b4, b5, b6, b7, b8, b9, b10, b11⟩ := hG0
  refine x_startl (cc := cX0_mixKnowledge) (maxL := 9) (ret := (some .long)) (own := RX0) (by decide) rfl rfl (fun _ => Nat.le_of_ble_eq_true rfl) ?_
  intro p e s m args below meth c D h q cs F hK hr hlk Q0 hQ0
  refine x_lv (lv' := [(0, .ref h), (1, .long (hh))]) [0, 1] rfl ?_
  have hin : ∀ w ∈ wsX00, w ∈ wsX0_mixKnowledge := by decide +kernel
  have hm_roundTotal : Cond.fieldLink RX0 55 "GossipSchedule" "roundTotal" "I" ∈ wsX0_mixKnowledge := by decide +kernel
  have hm_personTotal : Cond.fieldLink RX0 9 "GossipSchedule" "personTotal" "I" ∈ wsX0_mixKnowledge := by decide +kernel
  refine x_lload_n (pc := 0) F dX0_mixKnowledge_0 1 rfl rfl ?_
  refine x_lstore_n (lv' := [(0, .ref h), (1, .long (hh)), (3, .long (hh))]) (pc := 1) F dX0_mixKnowledge_1 rfl (by decide) [1, 2, 0] rfl ?_
  refine x_iconst (v := nI 0) (pc := 2) F dX0_mixKnowledge_2 (by decide) ?_
  refine x_istore (lv' := [(0, .ref h), (1, .long (hh)), (3, .long (hh)), (5, .int (nI 0))]) (pc := 3) F dX0_mixKnowledge_3 (by decide) [1, 2, 3, 0] rfl ?_
  have cut_5 : ∀ (fu : Nat) (i : Nat), (i ≤ G 3 0 + 1) → (G 3 0 + 1 - i) < fu → V p l e ({ frames := 2, cells := 0, slots := 0, locals := 53 }) s m args below meth c 9 0 0 Q0 (IC wX D h q cs s (G, L)) 5 [(0, .ref h), (1, .long (hh)), (3, .long (mkR G hh i)), (5, .int (nI i))] [] := by
    intro fu
    induction fu with
    | zero => intro i hi hfu; exact absurd hfu (Nat.not_lt_zero _)
    | succ fu ih_5 =>
      intro i hi hfu
      refine x_iload (pc := 5) F dX0_mixKnowledge_5 3 rfl ?_
      refine x_aload_n (pc := 7) F dX0_mixKnowledge_7 0 rfl rfl ?_
      refine gX_roundTotal (v := G 3 0) (pc := 8) F hK hin hm_roundTotal rfl dX0_mixKnowledge_8 ?_
      refine x_icmpN_gt (tgt := 71) (pc := 11) F dX0_mixKnowledge_11 (by decide) (by omega) (by omega) (fun hc_11 => ?_) (fun hc_11 => ?_)
      · refine x_lload_n (pc := 71) F dX0_mixKnowledge_71 2 rfl rfl ?_
        exact x_retl (w := wX) (ty := tX) (pc := 72) F hK hr hlk hQ0 dX0_mixKnowledge_72 (⟨rfl, by rw [show i = G 3 0 + 1 by omega]⟩)
      · refine x_aload_n (pc := 14) F dX0_mixKnowledge_14 0 rfl rfl ?_
        refine x_iload (pc := 15) F dX0_mixKnowledge_15 3 rfl ?_
        refine x_calll (w := wX) (ty := tX) (pc := 17) F hK wX_in [.int (nI i)] [] (c_X0_knownAfterRounds l G L i (by omega) hG) (cwV 1 F.2.2.2.2 gX0_mixKnowledge_X0_knownAfterRounds rfl rfl rfl (by decide +kernel) ⟨Nat.le_of_ble_eq_true rfl, Nat.le_of_ble_eq_true rfl⟩) rfl rfl rfl rfl (Nat.le_of_ble_eq_true rfl) dX0_mixKnowledge_17 ?_
        rintro _ _ ⟨rfl, rfl⟩
        refine x_lstore (lv' := [(0, .ref h), (1, .long (hh)), (3, .long (mkR G hh i)), (5, .int (nI i)), (6, .long (lN (pkN (kr G (rdF G i) (G 4 0)) (G 0 0))))]) (pc := 20) F dX0_mixKnowledge_20 (by decide) [1, 2, 3, 4, 0] rfl ?_
        have hX := kr_256 hG (rdF G i) (c := G 4 0) (Nat.le_refl _)
        have hsm := kr_sum hG (rdF G i)
        refine x_iconst (v := nI 0) (pc := 22) F dX0_mixKnowledge_22 (by decide) ?_
        refine x_istore (lv' := [(0, .ref h), (1, .long (hh)), (3, .long (mkR G hh i)), (5, .int (nI i)), (6, .long (lN (pkN (kr G (rdF G i) (G 4 0)) (G 0 0)))), (8, .int (nI 0))]) (pc := 23) F dX0_mixKnowledge_23 (by decide) [1, 2, 3, 4, 5, 0] rfl ?_
        have cut_25 : ∀ (fu : Nat) (pp : Nat), (pp ≤ G 0 0) → (G 0 0 - pp) < fu → V p l e ({ frames := 2, cells := 0, slots := 0, locals := 53 }) s m args below meth c 9 0 0 Q0 (IC wX D h q cs s (G, L)) 25 [(0, .ref h), (1, .long (hh)), (3, .long (mkP (kr G (rdF G i) (G 4 0)) (mkR G hh i) pp)), (5, .int (nI i)), (6, .long (lN (pkN (kr G (rdF G i) (G 4 0)) (G 0 0)))), (8, .int (nI pp))] [] := by
          intro fu
          induction fu with
          | zero => intro pp hpp hfu; exact absurd hfu (Nat.not_lt_zero _)
          | succ fu ih_25 =>
            intro pp hpp hfu
            refine x_iload (pc := 25) F dX0_mixKnowledge_25 5 rfl ?_
            refine x_aload_n (pc := 27) F dX0_mixKnowledge_27 0 rfl rfl ?_
            refine gX_personTotal (v := G 0 0) (pc := 28) F hK hin hm_personTotal rfl dX0_mixKnowledge_28 ?_
            refine x_icmpN_ge (tgt := 53) (pc := 31) F dX0_mixKnowledge_31 (by decide) (by omega) (by omega) (fun hc_31 => ?_) (fun hc_31 => ?_)
            · rw [show pp = G 0 0 by omega]
              refine x_lload_n (pc := 53) F dX0_mixKnowledge_53 2 rfl rfl ?_
              refine x_aload_n (pc := 54) F dX0_mixKnowledge_54 0 rfl rfl ?_
              refine x_lload (pc := 55) F dX0_mixKnowledge_55 4 rfl ?_
              refine x_calli (w := wX) (ty := tX) (pc := 57) F hK wX_in [.long (lN (pkN (kr G (rdF G i) (G 4 0)) (G 0 0)))] [.long (mkP (kr G (rdF G i) (G 4 0)) (mkR G hh i) (G 0 0))] (c_X0_averageBits l G L (pkN (kr G (rdF G i) (G 4 0)) (G 0 0)) (kr G (rdF G i) (G 4 0)) rfl hX hsm.1 hsm.2 b1 b2) (cwV 1 F.2.2.2.2 gX0_mixKnowledge_X0_averageBits rfl rfl rfl (by decide +kernel) ⟨Nat.le_of_ble_eq_true rfl, Nat.le_of_ble_eq_true rfl⟩) rfl rfl rfl rfl (Nat.le_of_ble_eq_true rfl) dX0_mixKnowledge_57 ?_
              rintro _ _ ⟨rfl, rfl⟩
              refine x_i2l (pc := 60) F dX0_mixKnowledge_60 rfl ?_
              refine x_scalll (pc := 61) F [.long (mkP (kr G (rdF G i) (G 4 0)) (mkR G hh i) (G 0 0)), .long ((avV (G 0 0) (sumP (kr G (rdF G i) (G 4 0)) (G 0 0))).toInt64)] [] (c_X0_mix l (mkP (kr G (rdF G i) (G 4 0)) (mkR G hh i) (G 0 0)) ((avV (G 0 0) (sumP (kr G (rdF G i) (G 4 0)) (G 0 0))).toInt64)) (va_cwS 2 F.2.2.2.2 gX0_mixKnowledge_X0_mix rfl rfl rfl (by decide +kernel) ⟨Nat.le_of_ble_eq_true rfl, Nat.le_of_ble_eq_true rfl⟩) rfl rfl (Nat.le_of_ble_eq_true rfl) dX0_mixKnowledge_61 ?_
              rintro _ rfl
              refine x_lstore_n (lv' := [(0, .ref h), (1, .long (hh)), (3, .long (mx (mkP (kr G (rdF G i) (G 4 0)) (mkR G hh i) (G 0 0)) ((avV (G 0 0) (sumP (kr G (rdF G i) (G 4 0)) (G 0 0))).toInt64))), (5, .int (nI i)), (6, .long (lN (pkN (kr G (rdF G i) (G 4 0)) (G 0 0)))), (8, .int (nI (G 0 0)))]) (pc := 64) F dX0_mixKnowledge_64 rfl (by decide) [1, 2, 0, 3, 4, 5] rfl ?_
              refine x_iinc (v := nI (i + 1)) (lv' := [(0, .ref h), (1, .long (hh)), (3, .long (mx (mkP (kr G (rdF G i) (G 4 0)) (mkR G hh i) (G 0 0)) ((avV (G 0 0) (sumP (kr G (rdF G i) (G 4 0)) (G 0 0))).toInt64))), (5, .int (nI (i + 1))), (6, .long (lN (pkN (kr G (rdF G i) (G 4 0)) (G 0 0)))), (8, .int (nI (G 0 0)))]) (pc := 65) F dX0_mixKnowledge_65 3 rfl (nx_inc (b := 1) i (by decide)) (by decide) [1, 2, 3, 0, 4, 5] rfl ?_
              refine x_goto (tgt := 5) (pc := 68) F dX0_mixKnowledge_68 (by decide) ?_
              refine x_lv [0, 1, 2, 3] rfl ?_
              exact ih_5 (i + 1) (by omega) (by omega)
            · have hx256 := hX pp (by omega)
              refine x_lload_n (pc := 34) F dX0_mixKnowledge_34 2 rfl rfl ?_
              refine x_lload (pc := 35) F dX0_mixKnowledge_35 4 rfl ?_
              refine x_iload (pc := 37) F dX0_mixKnowledge_37 5 rfl ?_
              refine x_scalli (pc := 39) F [.long (lN (pkN (kr G (rdF G i) (G 4 0)) (G 0 0))), .int (nI pp)] [.long (mkP (kr G (rdF G i) (G 4 0)) (mkR G hh i) pp)] (c_X0_itemsOf l (pkN (kr G (rdF G i) (G 4 0)) (G 0 0)) pp (pk_64 b2 hX) (by omega)) (va_cwS 2 F.2.2.2.2 gX0_mixKnowledge_X0_itemsOf rfl rfl rfl (by decide +kernel) ⟨Nat.le_of_ble_eq_true rfl, Nat.le_of_ble_eq_true rfl⟩) rfl rfl (Nat.le_of_ble_eq_true rfl) dX0_mixKnowledge_39 ?_
              rintro _ rfl
              refine x_i2l (pc := 42) F dX0_mixKnowledge_42 (show Int32.toInt64 _ = lN (kr G (rdF G i) (G 4 0) pp) from by rw [pk_item hX (by omega)]; exact nI_l (by omega)) ?_
              refine x_scalll (pc := 43) F [.long (mkP (kr G (rdF G i) (G 4 0)) (mkR G hh i) pp), .long (lN (kr G (rdF G i) (G 4 0) pp))] [] (c_X0_mix l (mkP (kr G (rdF G i) (G 4 0)) (mkR G hh i) pp) (lN (kr G (rdF G i) (G 4 0) pp))) (va_cwS 2 F.2.2.2.2 gX0_mixKnowledge_X0_mix rfl rfl rfl (by decide +kernel) ⟨Nat.le_of_ble_eq_true rfl, Nat.le_of_ble_eq_true rfl⟩) rfl rfl (Nat.le_of_ble_eq_true rfl) dX0_mixKnowledge_43 ?_
              rintro _ rfl
              refine x_lstore_n (lv' := [(0, .ref h), (1, .long (hh)), (3, .long (mx (mkP (kr G (rdF G i) (G 4 0)) (mkR G hh i) pp) (lN (kr G (rdF G i) (G 4 0) pp)))), (5, .int (nI i)), (6, .long (lN (pkN (kr G (rdF G i) (G 4 0)) (G 0 0)))), (8, .int (nI pp))]) (pc := 46) F dX0_mixKnowledge_46 rfl (by decide) [1, 2, 0, 3, 4, 5] rfl ?_
              refine x_iinc (v := nI (pp + 1)) (lv' := [(0, .ref h), (1, .long (hh)), (3, .long (mx (mkP (kr G (rdF G i) (G 4 0)) (mkR G hh i) pp) (lN (kr G (rdF G i) (G 4 0) pp)))), (5, .int (nI i)), (6, .long (lN (pkN (kr G (rdF G i) (G 4 0)) (G 0 0)))), (8, .int (nI (pp + 1)))]) (pc := 47) F dX0_mixKnowledge_47 5 rfl (nx_inc (b := 1) pp (by decide)) (by decide) [1, 2, 3, 4, 5, 0] rfl ?_
              refine x_goto (tgt := 25) (pc := 50) F dX0_mixKnowledge_50 (by decide) ?_
              refine x_lv [0, 1, 2, 3, 4, 5] rfl ?_
              exact ih_25 (pp + 1) (by omega) (by omega)
        refine x_lv [0, 1, 2, 3, 4, 5] rfl ?_
        exact cut_25 ((G 0 0 - 0) + 1) 0 (Nat.zero_le _) (Nat.lt_succ_self _)
  refine x_lv [0, 1, 2, 3] rfl ?_
  exact cut_5 ((G 3 0 + 1 - 0) + 1) 0 (Nat.zero_le _) (Nat.lt_succ_self _)
set_option maxHeartbeats 4000000 in
set_option maxRecDepth 100000 in
theorem c_X0_mixInput (l : Launch) (G : GS) (L : Nat → Nat) (hh : Int64) (hG : ok G) : MCl wX tX l yX0_mixInput wsX0_mixInput ({ frames := 1, cells := 0, slots := 0, locals := 23 }) [.long (hh)] (G, L) (fun r u => u = (G, L) ∧ r = miF G hh (G 10 0)) := by
  have hG0 := hG
  obtain ⟨b1, b2, b3, b4, b5, b6, b7, b8, b9, b10, b11⟩ := hG0
  refine x_startl (cc := cX0_mixInput) (maxL := 6) (ret := (some .long)) (own := RX0) (by decide) rfl rfl (fun _ => Nat.le_of_ble_eq_true rfl) ?_
  intro p e s m args below meth c D h q cs F hK hr hlk Q0 hQ0
  refine x_lv (lv' := [(0, .ref h), (1, .long (hh))]) [0, 1] rfl ?_
  have hin : ∀ w ∈ wsX00, w ∈ wsX0_mixInput := by decide +kernel
  have hm_inputLength : Cond.fieldLink RX0 77 "GossipSchedule" "inputLength" "I" ∈ wsX0_mixInput := by decide +kernel
  have hm_input : Cond.fieldLink RX0 33 "GossipSchedule" "input" "[I" ∈ wsX0_mixInput := by decide +kernel
  refine x_lload_n (pc := 0) F dX0_mixInput_0 1 rfl rfl ?_
  refine x_aload_n (pc := 1) F dX0_mixInput_1 0 rfl rfl ?_
  refine gX_inputLength (v := G 10 0) (pc := 2) F hK hin hm_inputLength rfl dX0_mixInput_2 ?_
  refine x_i2l (v := lN (G 10 0)) (pc := 5) F dX0_mixInput_5 (nI_l (by omega)) ?_
  refine x_scalll (pc := 6) F [.long (hh), .long (lN (G 10 0))] [] (c_X0_mix l hh (lN (G 10 0))) (va_cwS 2 F.2.2.2.2 gX0_mixInput_X0_mix rfl rfl rfl (by decide +kernel) ⟨Nat.le_of_ble_eq_true rfl, Nat.le_of_ble_eq_true rfl⟩) rfl rfl (Nat.le_of_ble_eq_true rfl) dX0_mixInput_6 ?_
  rintro _ rfl
  refine x_lstore_n (lv' := [(0, .ref h), (1, .long (hh)), (3, .long (mx hh (lN (G 10 0))))]) (pc := 9) F dX0_mixInput_9 rfl (by decide) [1, 2, 0] rfl ?_
  refine x_iconst (v := nI 0) (pc := 10) F dX0_mixInput_10 (by decide) ?_
  refine x_istore (lv' := [(0, .ref h), (1, .long (hh)), (3, .long (mx hh (lN (G 10 0)))), (5, .int (nI 0))]) (pc := 11) F dX0_mixInput_11 (by decide) [1, 2, 3, 0] rfl ?_
  have cut_13 : ∀ (fu : Nat) (i : Nat), (i ≤ G 10 0) → (G 10 0 - i) < fu → V p l e ({ frames := 1, cells := 0, slots := 0, locals := 23 }) s m args below meth c 6 0 0 Q0 (IC wX D h q cs s (G, L)) 13 [(0, .ref h), (1, .long (hh)), (3, .long (miF G hh i)), (5, .int (nI i))] [] := by
    intro fu
    induction fu with
    | zero => intro i hi hfu; exact absurd hfu (Nat.not_lt_zero _)
    | succ fu ih_13 =>
      intro i hi hfu
      refine x_iload (pc := 13) F dX0_mixInput_13 3 rfl ?_
      refine x_aload_n (pc := 15) F dX0_mixInput_15 0 rfl rfl ?_
      refine gX_inputLength (v := G 10 0) (pc := 16) F hK hin hm_inputLength rfl dX0_mixInput_16 ?_
      refine x_icmpN_ge (tgt := 41) (pc := 19) F dX0_mixInput_19 (by decide) (by omega) (by omega) (fun hc_19 => ?_) (fun hc_19 => ?_)
      · refine x_lload_n (pc := 41) F dX0_mixInput_41 2 rfl rfl ?_
        exact x_retl (w := wX) (ty := tX) (pc := 42) F hK hr hlk hQ0 dX0_mixInput_42 (⟨rfl, by rw [show i = G 10 0 by omega]⟩)
      · have hv := b10 i (by omega)
        refine x_lload_n (pc := 22) F dX0_mixInput_22 2 rfl rfl ?_
        refine x_aload_n (pc := 23) F dX0_mixInput_23 0 rfl rfl ?_
        refine gX_input (pc := 24) F hK hin hm_input dX0_mixInput_24 ?_
        refine x_iload (pc := 27) F dX0_mixInput_27 3 rfl ?_
        refine lX_input (v := G 9 i) (pc := 29) F hK dX0_mixInput_29 (by omega) rfl ?_
        refine x_i2l (v := lN (G 9 i)) (pc := 30) F dX0_mixInput_30 (nI_l (by omega)) ?_
        refine x_scalll (pc := 31) F [.long (miF G hh i), .long (lN (G 9 i))] [] (c_X0_mix l (miF G hh i) (lN (G 9 i))) (va_cwS 2 F.2.2.2.2 gX0_mixInput_X0_mix rfl rfl rfl (by decide +kernel) ⟨Nat.le_of_ble_eq_true rfl, Nat.le_of_ble_eq_true rfl⟩) rfl rfl (Nat.le_of_ble_eq_true rfl) dX0_mixInput_31 ?_
        rintro _ rfl
        refine x_lstore_n (lv' := [(0, .ref h), (1, .long (hh)), (3, .long (mx (miF G hh i) (lN (G 9 i)))), (5, .int (nI i))]) (pc := 34) F dX0_mixInput_34 rfl (by decide) [1, 2, 0, 3] rfl ?_
        refine x_iinc (v := nI (i + 1)) (lv' := [(0, .ref h), (1, .long (hh)), (3, .long (mx (miF G hh i) (lN (G 9 i)))), (5, .int (nI (i + 1)))]) (pc := 35) F dX0_mixInput_35 3 rfl (nx_inc (b := 1) i (by decide)) (by decide) [1, 2, 3, 0] rfl ?_
        refine x_goto (tgt := 13) (pc := 38) F dX0_mixInput_38 (by decide) ?_
        refine x_lv [0, 1, 2, 3] rfl ?_
        exact ih_13 (i + 1) (by omega) (by omega)
  refine x_lv [0, 1, 2, 3] rfl ?_
  exact cut_13 ((G 10 0 - 0) + 1) 0 (Nat.zero_le _) (Nat.lt_succ_self _)
set_option maxHeartbeats 4000000 in
set_option maxRecDepth 100000 in
theorem c_X0_digest (l : Launch) (G : GS) (L : Nat → Nat) (hG : ok G) : MCl wX tX l yX0_digest wsX0_digest ({ frames := 5, cells := 0, slots := 0, locals := 119 }) [] (G, L) (fun r u => ∃ L', u = (G, L') ∧ r = sp_dig G) := by
  have hG0 := hG
  obtain ⟨b1, b2, b3, b4, b5, b6, b7, b8, b9, b10, b11⟩ := hG0
  have hrl := rdN_le G (G 4 0)
  have hle0 := leN_le G 0
  have hle1 := leN_le G 1
  refine x_startl (cc := cX0_digest) (maxL := 3) (ret := (some .long)) (own := RX0) (by decide) rfl rfl (fun _ => Nat.le_of_ble_eq_true rfl) ?_
  intro p e s m args below meth c D h q cs F hK hr hlk Q0 hQ0
  refine x_lv (lv' := [(0, .ref h)]) [0] rfl ?_
  have hin : ∀ w ∈ wsX00, w ∈ wsX0_digest := by decide +kernel
  have hm_personTotal : Cond.fieldLink RX0 9 "GossipSchedule" "personTotal" "I" ∈ wsX0_digest := by decide +kernel
  have hm_scheduleMode : Cond.fieldLink RX0 13 "GossipSchedule" "scheduleMode" "I" ∈ wsX0_digest := by decide +kernel
  have hm_graphKind : Cond.fieldLink RX0 16 "GossipSchedule" "graphKind" "I" ∈ wsX0_digest := by decide +kernel
  have hm_roundTotal : Cond.fieldLink RX0 55 "GossipSchedule" "roundTotal" "I" ∈ wsX0_digest := by decide +kernel
  have hm_callTotal : Cond.fieldLink RX0 70 "GossipSchedule" "callTotal" "I" ∈ wsX0_digest := by decide +kernel
  have hk_161 : Cond.constantLong RX0 161 (1759) ∈ wsX0_digest := by decide +kernel
  refine x_ldc2 (v := lN 1759) (pc := 0) F dX0_digest_0 hk_161 ?_
  refine x_lstore_n (lv' := [(0, .ref h), (1, .long (lN (1759)))]) (pc := 3) F dX0_digest_3 rfl (by decide) [1, 0] rfl ?_
  refine x_lload_n (pc := 4) F dX0_digest_4 1 rfl rfl ?_
  refine x_aload_n (pc := 5) F dX0_digest_5 0 rfl rfl ?_
  refine gX_personTotal (v := G 0 0) (pc := 6) F hK hin hm_personTotal rfl dX0_digest_6 ?_
  refine x_i2l (v := lN (G 0 0)) (pc := 9) F dX0_digest_9 (nI_l (by omega)) ?_
  refine x_scalll (pc := 10) F [.long (lN (1759)), .long (lN (G 0 0))] [] (c_X0_mix l (lN 1759) (lN (G 0 0))) (va_cwS 2 F.2.2.2.2 gX0_digest_X0_mix rfl rfl rfl (by decide +kernel) ⟨Nat.le_of_ble_eq_true rfl, Nat.le_of_ble_eq_true rfl⟩) rfl rfl (Nat.le_of_ble_eq_true rfl) dX0_digest_10 ?_
  rintro _ rfl
  refine x_lstore_n (lv' := [(0, .ref h), (1, .long (mx (lN 1759) (lN (G 0 0))))]) (pc := 13) F dX0_digest_13 rfl (by decide) [1, 0] rfl ?_
  refine x_lload_n (pc := 14) F dX0_digest_14 1 rfl rfl ?_
  refine x_aload_n (pc := 15) F dX0_digest_15 0 rfl rfl ?_
  refine gX_scheduleMode (v := G 1 0) (pc := 16) F hK hin hm_scheduleMode rfl dX0_digest_16 ?_
  refine x_i2l (v := lN (G 1 0)) (pc := 19) F dX0_digest_19 (nI_l (by omega)) ?_
  refine x_scalll (pc := 20) F [.long (mx (lN 1759) (lN (G 0 0))), .long (lN (G 1 0))] [] (c_X0_mix l (mx (lN 1759) (lN (G 0 0))) (lN (G 1 0))) (va_cwS 2 F.2.2.2.2 gX0_digest_X0_mix rfl rfl rfl (by decide +kernel) ⟨Nat.le_of_ble_eq_true rfl, Nat.le_of_ble_eq_true rfl⟩) rfl rfl (Nat.le_of_ble_eq_true rfl) dX0_digest_20 ?_
  rintro _ rfl
  refine x_lstore_n (lv' := [(0, .ref h), (1, .long (mx (mx (lN 1759) (lN (G 0 0))) (lN (G 1 0))))]) (pc := 23) F dX0_digest_23 rfl (by decide) [1, 0] rfl ?_
  refine x_lload_n (pc := 24) F dX0_digest_24 1 rfl rfl ?_
  refine x_aload_n (pc := 25) F dX0_digest_25 0 rfl rfl ?_
  refine gX_graphKind (v := G 2 0) (pc := 26) F hK hin hm_graphKind rfl dX0_digest_26 ?_
  refine x_i2l (v := lN (G 2 0)) (pc := 29) F dX0_digest_29 (nI_l (by omega)) ?_
  refine x_scalll (pc := 30) F [.long (mx (mx (lN 1759) (lN (G 0 0))) (lN (G 1 0))), .long (lN (G 2 0))] [] (c_X0_mix l (mx (mx (lN 1759) (lN (G 0 0))) (lN (G 1 0))) (lN (G 2 0))) (va_cwS 2 F.2.2.2.2 gX0_digest_X0_mix rfl rfl rfl (by decide +kernel) ⟨Nat.le_of_ble_eq_true rfl, Nat.le_of_ble_eq_true rfl⟩) rfl rfl (Nat.le_of_ble_eq_true rfl) dX0_digest_30 ?_
  rintro _ rfl
  refine x_lstore_n (lv' := [(0, .ref h), (1, .long (mx (mx (mx (lN 1759) (lN (G 0 0))) (lN (G 1 0))) (lN (G 2 0))))]) (pc := 33) F dX0_digest_33 rfl (by decide) [1, 0] rfl ?_
  refine x_lload_n (pc := 34) F dX0_digest_34 1 rfl rfl ?_
  refine x_aload_n (pc := 35) F dX0_digest_35 0 rfl rfl ?_
  refine gX_roundTotal (v := G 3 0) (pc := 36) F hK hin hm_roundTotal rfl dX0_digest_36 ?_
  refine x_i2l (v := lN (G 3 0)) (pc := 39) F dX0_digest_39 (nI_l (by omega)) ?_
  refine x_scalll (pc := 40) F [.long (mx (mx (mx (lN 1759) (lN (G 0 0))) (lN (G 1 0))) (lN (G 2 0))), .long (lN (G 3 0))] [] (c_X0_mix l (mx (mx (mx (lN 1759) (lN (G 0 0))) (lN (G 1 0))) (lN (G 2 0))) (lN (G 3 0))) (va_cwS 2 F.2.2.2.2 gX0_digest_X0_mix rfl rfl rfl (by decide +kernel) ⟨Nat.le_of_ble_eq_true rfl, Nat.le_of_ble_eq_true rfl⟩) rfl rfl (Nat.le_of_ble_eq_true rfl) dX0_digest_40 ?_
  rintro _ rfl
  refine x_lstore_n (lv' := [(0, .ref h), (1, .long (mx (mx (mx (mx (lN 1759) (lN (G 0 0))) (lN (G 1 0))) (lN (G 2 0))) (lN (G 3 0))))]) (pc := 43) F dX0_digest_43 rfl (by decide) [1, 0] rfl ?_
  refine x_lload_n (pc := 44) F dX0_digest_44 1 rfl rfl ?_
  refine x_aload_n (pc := 45) F dX0_digest_45 0 rfl rfl ?_
  refine gX_callTotal (v := G 4 0) (pc := 46) F hK hin hm_callTotal rfl dX0_digest_46 ?_
  refine x_i2l (v := lN (G 4 0)) (pc := 49) F dX0_digest_49 (nI_l (by omega)) ?_
  refine x_scalll (pc := 50) F [.long (mx (mx (mx (mx (lN 1759) (lN (G 0 0))) (lN (G 1 0))) (lN (G 2 0))) (lN (G 3 0))), .long (lN (G 4 0))] [] (c_X0_mix l (mx (mx (mx (mx (lN 1759) (lN (G 0 0))) (lN (G 1 0))) (lN (G 2 0))) (lN (G 3 0))) (lN (G 4 0))) (va_cwS 2 F.2.2.2.2 gX0_digest_X0_mix rfl rfl rfl (by decide +kernel) ⟨Nat.le_of_ble_eq_true rfl, Nat.le_of_ble_eq_true rfl⟩) rfl rfl (Nat.le_of_ble_eq_true rfl) dX0_digest_50 ?_
  rintro _ rfl
  refine x_lstore_n (lv' := [(0, .ref h), (1, .long (mx (mx (mx (mx (mx (lN 1759) (lN (G 0 0))) (lN (G 1 0))) (lN (G 2 0))) (lN (G 3 0))) (lN (G 4 0))))]) (pc := 53) F dX0_digest_53 rfl (by decide) [1, 0] rfl ?_
  refine x_aload_n (pc := 54) F dX0_digest_54 0 rfl rfl ?_
  refine x_lload_n (pc := 55) F dX0_digest_55 1 rfl rfl ?_
  refine x_calll (w := wX) (ty := tX) (pc := 56) F hK wX_in [.long (mx (mx (mx (mx (mx (lN 1759) (lN (G 0 0))) (lN (G 1 0))) (lN (G 2 0))) (lN (G 3 0))) (lN (G 4 0)))] [] (c_X0_mixCalls l G L (mx (mx (mx (mx (mx (lN 1759) (lN (G 0 0))) (lN (G 1 0))) (lN (G 2 0))) (lN (G 3 0))) (lN (G 4 0))) hG) (cwV 1 F.2.2.2.2 gX0_digest_X0_mixCalls rfl rfl rfl (by decide +kernel) ⟨Nat.le_of_ble_eq_true rfl, Nat.le_of_ble_eq_true rfl⟩) rfl rfl rfl rfl (Nat.le_of_ble_eq_true rfl) dX0_digest_56 ?_
  rintro _ _ ⟨rfl, rfl⟩
  refine x_lstore_n (lv' := [(0, .ref h), (1, .long (mcF G (mx (mx (mx (mx (mx (lN 1759) (lN (G 0 0))) (lN (G 1 0))) (lN (G 2 0))) (lN (G 3 0))) (lN (G 4 0))) (G 4 0)))]) (pc := 59) F dX0_digest_59 rfl (by decide) [1, 0] rfl ?_
  refine x_aload_n (pc := 60) F dX0_digest_60 0 rfl rfl ?_
  refine x_lload_n (pc := 61) F dX0_digest_61 1 rfl rfl ?_
  refine x_calll (w := wX) (ty := tX) (pc := 62) F hK wX_in [.long (mcF G (mx (mx (mx (mx (mx (lN 1759) (lN (G 0 0))) (lN (G 1 0))) (lN (G 2 0))) (lN (G 3 0))) (lN (G 4 0))) (G 4 0))] [] (c_X0_mixKnowledge l G L (mcF G (mx (mx (mx (mx (mx (lN 1759) (lN (G 0 0))) (lN (G 1 0))) (lN (G 2 0))) (lN (G 3 0))) (lN (G 4 0))) (G 4 0)) hG) (cwV 1 F.2.2.2.2 gX0_digest_X0_mixKnowledge rfl rfl rfl (by decide +kernel) ⟨Nat.le_of_ble_eq_true rfl, Nat.le_of_ble_eq_true rfl⟩) rfl rfl rfl rfl (Nat.le_of_ble_eq_true rfl) dX0_digest_62 ?_
  rintro _ _ ⟨rfl, rfl⟩
  refine x_lstore_n (lv' := [(0, .ref h), (1, .long (mkR G (mcF G (mx (mx (mx (mx (mx (lN 1759) (lN (G 0 0))) (lN (G 1 0))) (lN (G 2 0))) (lN (G 3 0))) (lN (G 4 0))) (G 4 0)) (G 3 0 + 1)))]) (pc := 65) F dX0_digest_65 rfl (by decide) [1, 0] rfl ?_
  refine x_lload_n (pc := 66) F dX0_digest_66 1 rfl rfl ?_
  refine x_aload_n (pc := 67) F dX0_digest_67 0 rfl rfl ?_
  refine x_calli (w := wX) (ty := tX) (pc := 68) F hK wX_in [] [.long (mkR G (mcF G (mx (mx (mx (mx (mx (lN 1759) (lN (G 0 0))) (lN (G 1 0))) (lN (G 2 0))) (lN (G 3 0))) (lN (G 4 0))) (G 4 0)) (G 3 0 + 1))] (c_X0_completeAfter l G L hG) (cwV 0 F.2.2.2.2 gX0_digest_X0_completeAfter rfl rfl rfl (by decide +kernel) ⟨Nat.le_of_ble_eq_true rfl, Nat.le_of_ble_eq_true rfl⟩) rfl rfl rfl rfl (Nat.le_of_ble_eq_true rfl) dX0_digest_68 ?_
  rintro _ _ ⟨rfl, rfl⟩
  refine x_i2l (pc := 71) F dX0_digest_71 rfl ?_
  refine x_scalll (pc := 72) F [.long (mkR G (mcF G (mx (mx (mx (mx (mx (lN 1759) (lN (G 0 0))) (lN (G 1 0))) (lN (G 2 0))) (lN (G 3 0))) (lN (G 4 0))) (G 4 0)) (G 3 0 + 1)), .long ((caV G).toInt64)] [] (c_X0_mix l (mkR G (mcF G (mx (mx (mx (mx (mx (lN 1759) (lN (G 0 0))) (lN (G 1 0))) (lN (G 2 0))) (lN (G 3 0))) (lN (G 4 0))) (G 4 0)) (G 3 0 + 1)) ((caV G).toInt64)) (va_cwS 2 F.2.2.2.2 gX0_digest_X0_mix rfl rfl rfl (by decide +kernel) ⟨Nat.le_of_ble_eq_true rfl, Nat.le_of_ble_eq_true rfl⟩) rfl rfl (Nat.le_of_ble_eq_true rfl) dX0_digest_72 ?_
  rintro _ rfl
  refine x_lstore_n (lv' := [(0, .ref h), (1, .long (mx (mkR G (mcF G (mx (mx (mx (mx (mx (lN 1759) (lN (G 0 0))) (lN (G 1 0))) (lN (G 2 0))) (lN (G 3 0))) (lN (G 4 0))) (G 4 0)) (G 3 0 + 1)) ((caV G).toInt64)))]) (pc := 75) F dX0_digest_75 rfl (by decide) [1, 0] rfl ?_
  refine x_lload_n (pc := 76) F dX0_digest_76 1 rfl rfl ?_
  refine x_aload_n (pc := 77) F dX0_digest_77 0 rfl rfl ?_
  refine x_calli (w := wX) (ty := tX) (pc := 78) F hK wX_in [] [.long (mx (mkR G (mcF G (mx (mx (mx (mx (mx (lN 1759) (lN (G 0 0))) (lN (G 1 0))) (lN (G 2 0))) (lN (G 3 0))) (lN (G 4 0))) (G 4 0)) (G 3 0 + 1)) ((caV G).toInt64))] (c_X0_redundantCalls l G L hG) (cwV 0 F.2.2.2.2 gX0_digest_X0_redundantCalls rfl rfl rfl (by decide +kernel) ⟨Nat.le_of_ble_eq_true rfl, Nat.le_of_ble_eq_true rfl⟩) rfl rfl rfl rfl (Nat.le_of_ble_eq_true rfl) dX0_digest_78 ?_
  rintro _ _ ⟨rfl, rfl⟩
  refine x_i2l (v := lN (rdN G (G 4 0))) (pc := 81) F dX0_digest_81 (nI_l (by omega)) ?_
  refine x_scalll (pc := 82) F [.long (mx (mkR G (mcF G (mx (mx (mx (mx (mx (lN 1759) (lN (G 0 0))) (lN (G 1 0))) (lN (G 2 0))) (lN (G 3 0))) (lN (G 4 0))) (G 4 0)) (G 3 0 + 1)) ((caV G).toInt64)), .long (lN (rdN G (G 4 0)))] [] (c_X0_mix l (mx (mkR G (mcF G (mx (mx (mx (mx (mx (lN 1759) (lN (G 0 0))) (lN (G 1 0))) (lN (G 2 0))) (lN (G 3 0))) (lN (G 4 0))) (G 4 0)) (G 3 0 + 1)) ((caV G).toInt64)) (lN (rdN G (G 4 0)))) (va_cwS 2 F.2.2.2.2 gX0_digest_X0_mix rfl rfl rfl (by decide +kernel) ⟨Nat.le_of_ble_eq_true rfl, Nat.le_of_ble_eq_true rfl⟩) rfl rfl (Nat.le_of_ble_eq_true rfl) dX0_digest_82 ?_
  rintro _ rfl
  refine x_lstore_n (lv' := [(0, .ref h), (1, .long (mx (mx (mkR G (mcF G (mx (mx (mx (mx (mx (lN 1759) (lN (G 0 0))) (lN (G 1 0))) (lN (G 2 0))) (lN (G 3 0))) (lN (G 4 0))) (G 4 0)) (G 3 0 + 1)) ((caV G).toInt64)) (lN (rdN G (G 4 0)))))]) (pc := 85) F dX0_digest_85 rfl (by decide) [1, 0] rfl ?_
  refine x_lload_n (pc := 86) F dX0_digest_86 1 rfl rfl ?_
  refine x_aload_n (pc := 87) F dX0_digest_87 0 rfl rfl ?_
  refine x_iconst (v := nI 0) (pc := 88) F dX0_digest_88 (by decide) ?_
  refine x_calli (w := wX) (ty := tX) (pc := 89) F hK wX_in [.int (nI 0)] [.long (mx (mx (mkR G (mcF G (mx (mx (mx (mx (mx (lN 1759) (lN (G 0 0))) (lN (G 1 0))) (lN (G 2 0))) (lN (G 3 0))) (lN (G 4 0))) (G 4 0)) (G 3 0 + 1)) ((caV G).toInt64)) (lN (rdN G (G 4 0))))] (c_X0_leastCalls l G L 0 (by omega) hG) (cwV 1 F.2.2.2.2 gX0_digest_X0_leastCalls rfl rfl rfl (by decide +kernel) ⟨Nat.le_of_ble_eq_true rfl, Nat.le_of_ble_eq_true rfl⟩) rfl rfl rfl rfl (Nat.le_of_ble_eq_true rfl) dX0_digest_89 ?_
  rintro _ _ ⟨rfl, rfl⟩
  refine x_i2l (v := lN (leN G 0)) (pc := 92) F dX0_digest_92 (nI_l (by omega)) ?_
  refine x_scalll (pc := 93) F [.long (mx (mx (mkR G (mcF G (mx (mx (mx (mx (mx (lN 1759) (lN (G 0 0))) (lN (G 1 0))) (lN (G 2 0))) (lN (G 3 0))) (lN (G 4 0))) (G 4 0)) (G 3 0 + 1)) ((caV G).toInt64)) (lN (rdN G (G 4 0)))), .long (lN (leN G 0))] [] (c_X0_mix l (mx (mx (mkR G (mcF G (mx (mx (mx (mx (mx (lN 1759) (lN (G 0 0))) (lN (G 1 0))) (lN (G 2 0))) (lN (G 3 0))) (lN (G 4 0))) (G 4 0)) (G 3 0 + 1)) ((caV G).toInt64)) (lN (rdN G (G 4 0)))) (lN (leN G 0))) (va_cwS 2 F.2.2.2.2 gX0_digest_X0_mix rfl rfl rfl (by decide +kernel) ⟨Nat.le_of_ble_eq_true rfl, Nat.le_of_ble_eq_true rfl⟩) rfl rfl (Nat.le_of_ble_eq_true rfl) dX0_digest_93 ?_
  rintro _ rfl
  refine x_lstore_n (lv' := [(0, .ref h), (1, .long (mx (mx (mx (mkR G (mcF G (mx (mx (mx (mx (mx (lN 1759) (lN (G 0 0))) (lN (G 1 0))) (lN (G 2 0))) (lN (G 3 0))) (lN (G 4 0))) (G 4 0)) (G 3 0 + 1)) ((caV G).toInt64)) (lN (rdN G (G 4 0)))) (lN (leN G 0))))]) (pc := 96) F dX0_digest_96 rfl (by decide) [1, 0] rfl ?_
  refine x_lload_n (pc := 97) F dX0_digest_97 1 rfl rfl ?_
  refine x_aload_n (pc := 98) F dX0_digest_98 0 rfl rfl ?_
  refine x_iconst (v := nI 1) (pc := 99) F dX0_digest_99 (by decide) ?_
  refine x_calli (w := wX) (ty := tX) (pc := 100) F hK wX_in [.int (nI 1)] [.long (mx (mx (mx (mkR G (mcF G (mx (mx (mx (mx (mx (lN 1759) (lN (G 0 0))) (lN (G 1 0))) (lN (G 2 0))) (lN (G 3 0))) (lN (G 4 0))) (G 4 0)) (G 3 0 + 1)) ((caV G).toInt64)) (lN (rdN G (G 4 0)))) (lN (leN G 0)))] (c_X0_leastCalls l G L 1 (by omega) hG) (cwV 1 F.2.2.2.2 gX0_digest_X0_leastCalls rfl rfl rfl (by decide +kernel) ⟨Nat.le_of_ble_eq_true rfl, Nat.le_of_ble_eq_true rfl⟩) rfl rfl rfl rfl (Nat.le_of_ble_eq_true rfl) dX0_digest_100 ?_
  rintro _ _ ⟨rfl, rfl⟩
  refine x_i2l (v := lN (leN G 1)) (pc := 103) F dX0_digest_103 (nI_l (by omega)) ?_
  refine x_scalll (pc := 104) F [.long (mx (mx (mx (mkR G (mcF G (mx (mx (mx (mx (mx (lN 1759) (lN (G 0 0))) (lN (G 1 0))) (lN (G 2 0))) (lN (G 3 0))) (lN (G 4 0))) (G 4 0)) (G 3 0 + 1)) ((caV G).toInt64)) (lN (rdN G (G 4 0)))) (lN (leN G 0))), .long (lN (leN G 1))] [] (c_X0_mix l (mx (mx (mx (mkR G (mcF G (mx (mx (mx (mx (mx (lN 1759) (lN (G 0 0))) (lN (G 1 0))) (lN (G 2 0))) (lN (G 3 0))) (lN (G 4 0))) (G 4 0)) (G 3 0 + 1)) ((caV G).toInt64)) (lN (rdN G (G 4 0)))) (lN (leN G 0))) (lN (leN G 1))) (va_cwS 2 F.2.2.2.2 gX0_digest_X0_mix rfl rfl rfl (by decide +kernel) ⟨Nat.le_of_ble_eq_true rfl, Nat.le_of_ble_eq_true rfl⟩) rfl rfl (Nat.le_of_ble_eq_true rfl) dX0_digest_104 ?_
  rintro _ rfl
  refine x_lstore_n (lv' := [(0, .ref h), (1, .long (mx (mx (mx (mx (mkR G (mcF G (mx (mx (mx (mx (mx (lN 1759) (lN (G 0 0))) (lN (G 1 0))) (lN (G 2 0))) (lN (G 3 0))) (lN (G 4 0))) (G 4 0)) (G 3 0 + 1)) ((caV G).toInt64)) (lN (rdN G (G 4 0)))) (lN (leN G 0))) (lN (leN G 1))))]) (pc := 107) F dX0_digest_107 rfl (by decide) [1, 0] rfl ?_
  refine x_lload_n (pc := 108) F dX0_digest_108 1 rfl rfl ?_
  refine x_aload_n (pc := 109) F dX0_digest_109 0 rfl rfl ?_
  refine x_calli (w := wX) (ty := tX) (pc := 110) F hK wX_in [] [.long (mx (mx (mx (mx (mkR G (mcF G (mx (mx (mx (mx (mx (lN 1759) (lN (G 0 0))) (lN (G 1 0))) (lN (G 2 0))) (lN (G 3 0))) (lN (G 4 0))) (G 4 0)) (G 3 0 + 1)) ((caV G).toInt64)) (lN (rdN G (G 4 0)))) (lN (leN G 0))) (lN (leN G 1)))] (c_X0_smallestSufficientCalls l G L hG) (cwV 0 F.2.2.2.2 gX0_digest_X0_smallestSufficientCalls rfl rfl rfl (by decide +kernel) ⟨Nat.le_of_ble_eq_true rfl, Nat.le_of_ble_eq_true rfl⟩) rfl rfl rfl rfl (Nat.le_of_ble_eq_true rfl) dX0_digest_110 ?_
  rintro _ _ ⟨L8, rfl, rfl⟩
  refine x_i2l (pc := 113) F dX0_digest_113 rfl ?_
  refine x_scalll (pc := 114) F [.long (mx (mx (mx (mx (mkR G (mcF G (mx (mx (mx (mx (mx (lN 1759) (lN (G 0 0))) (lN (G 1 0))) (lN (G 2 0))) (lN (G 3 0))) (lN (G 4 0))) (G 4 0)) (G 3 0 + 1)) ((caV G).toInt64)) (lN (rdN G (G 4 0)))) (lN (leN G 0))) (lN (leN G 1))), .long ((sp_sm G).toInt64)] [] (c_X0_mix l (mx (mx (mx (mx (mkR G (mcF G (mx (mx (mx (mx (mx (lN 1759) (lN (G 0 0))) (lN (G 1 0))) (lN (G 2 0))) (lN (G 3 0))) (lN (G 4 0))) (G 4 0)) (G 3 0 + 1)) ((caV G).toInt64)) (lN (rdN G (G 4 0)))) (lN (leN G 0))) (lN (leN G 1))) ((sp_sm G).toInt64)) (va_cwS 2 F.2.2.2.2 gX0_digest_X0_mix rfl rfl rfl (by decide +kernel) ⟨Nat.le_of_ble_eq_true rfl, Nat.le_of_ble_eq_true rfl⟩) rfl rfl (Nat.le_of_ble_eq_true rfl) dX0_digest_114 ?_
  rintro _ rfl
  refine x_lstore_n (lv' := [(0, .ref h), (1, .long (mx (mx (mx (mx (mx (mkR G (mcF G (mx (mx (mx (mx (mx (lN 1759) (lN (G 0 0))) (lN (G 1 0))) (lN (G 2 0))) (lN (G 3 0))) (lN (G 4 0))) (G 4 0)) (G 3 0 + 1)) ((caV G).toInt64)) (lN (rdN G (G 4 0)))) (lN (leN G 0))) (lN (leN G 1))) ((sp_sm G).toInt64)))]) (pc := 117) F dX0_digest_117 rfl (by decide) [1, 0] rfl ?_
  refine x_lload_n (pc := 118) F dX0_digest_118 1 rfl rfl ?_
  refine x_aload_n (pc := 119) F dX0_digest_119 0 rfl rfl ?_
  refine x_bipush (v := nI 50) (pc := 120) F dX0_digest_120 (by decide) ?_
  refine x_calll (w := wX) (ty := tX) (pc := 122) F hK wX_in [.int (nI 50)] [.long (mx (mx (mx (mx (mx (mkR G (mcF G (mx (mx (mx (mx (mx (lN 1759) (lN (G 0 0))) (lN (G 1 0))) (lN (G 2 0))) (lN (G 3 0))) (lN (G 4 0))) (G 4 0)) (G 3 0 + 1)) ((caV G).toInt64)) (lN (rdN G (G 4 0)))) (lN (leN G 0))) (lN (leN G 1))) ((sp_sm G).toInt64))] (c_X0_successProbability l G L8 (nI 50) hG) (cwV 1 F.2.2.2.2 gX0_digest_X0_successProbability rfl rfl rfl (by decide +kernel) ⟨Nat.le_of_ble_eq_true rfl, Nat.le_of_ble_eq_true rfl⟩) rfl rfl rfl rfl (Nat.le_of_ble_eq_true rfl) dX0_digest_122 ?_
  rintro _ _ ⟨L7, rfl, rfl⟩
  refine x_scalll (pc := 125) F [.long (mx (mx (mx (mx (mx (mkR G (mcF G (mx (mx (mx (mx (mx (lN 1759) (lN (G 0 0))) (lN (G 1 0))) (lN (G 2 0))) (lN (G 3 0))) (lN (G 4 0))) (G 4 0)) (G 3 0 + 1)) ((caV G).toInt64)) (lN (rdN G (G 4 0)))) (lN (leN G 0))) (lN (leN G 1))) ((sp_sm G).toInt64)), .long (sp_prob G (nI 50))] [] (c_X0_mix l (mx (mx (mx (mx (mx (mkR G (mcF G (mx (mx (mx (mx (mx (lN 1759) (lN (G 0 0))) (lN (G 1 0))) (lN (G 2 0))) (lN (G 3 0))) (lN (G 4 0))) (G 4 0)) (G 3 0 + 1)) ((caV G).toInt64)) (lN (rdN G (G 4 0)))) (lN (leN G 0))) (lN (leN G 1))) ((sp_sm G).toInt64)) (sp_prob G (nI 50))) (va_cwS 2 F.2.2.2.2 gX0_digest_X0_mix rfl rfl rfl (by decide +kernel) ⟨Nat.le_of_ble_eq_true rfl, Nat.le_of_ble_eq_true rfl⟩) rfl rfl (Nat.le_of_ble_eq_true rfl) dX0_digest_125 ?_
  rintro _ rfl
  refine x_lstore_n (lv' := [(0, .ref h), (1, .long (mx (mx (mx (mx (mx (mx (mkR G (mcF G (mx (mx (mx (mx (mx (lN 1759) (lN (G 0 0))) (lN (G 1 0))) (lN (G 2 0))) (lN (G 3 0))) (lN (G 4 0))) (G 4 0)) (G 3 0 + 1)) ((caV G).toInt64)) (lN (rdN G (G 4 0)))) (lN (leN G 0))) (lN (leN G 1))) ((sp_sm G).toInt64)) (sp_prob G (nI 50))))]) (pc := 128) F dX0_digest_128 rfl (by decide) [1, 0] rfl ?_
  refine x_aload_n (pc := 129) F dX0_digest_129 0 rfl rfl ?_
  refine x_lload_n (pc := 130) F dX0_digest_130 1 rfl rfl ?_
  refine x_calll (w := wX) (ty := tX) (pc := 131) F hK wX_in [.long (mx (mx (mx (mx (mx (mx (mkR G (mcF G (mx (mx (mx (mx (mx (lN 1759) (lN (G 0 0))) (lN (G 1 0))) (lN (G 2 0))) (lN (G 3 0))) (lN (G 4 0))) (G 4 0)) (G 3 0 + 1)) ((caV G).toInt64)) (lN (rdN G (G 4 0)))) (lN (leN G 0))) (lN (leN G 1))) ((sp_sm G).toInt64)) (sp_prob G (nI 50)))] [] (c_X0_mixInput l G L7 (mx (mx (mx (mx (mx (mx (mkR G (mcF G (mx (mx (mx (mx (mx (lN 1759) (lN (G 0 0))) (lN (G 1 0))) (lN (G 2 0))) (lN (G 3 0))) (lN (G 4 0))) (G 4 0)) (G 3 0 + 1)) ((caV G).toInt64)) (lN (rdN G (G 4 0)))) (lN (leN G 0))) (lN (leN G 1))) ((sp_sm G).toInt64)) (sp_prob G (nI 50))) hG) (cwV 1 F.2.2.2.2 gX0_digest_X0_mixInput rfl rfl rfl (by decide +kernel) ⟨Nat.le_of_ble_eq_true rfl, Nat.le_of_ble_eq_true rfl⟩) rfl rfl rfl rfl (Nat.le_of_ble_eq_true rfl) dX0_digest_131 ?_
  rintro _ _ ⟨rfl, rfl⟩
  exact x_retl (w := wX) (ty := tX) (pc := 134) F hK hr hlk hQ0 dX0_digest_134 (⟨L7, rfl, rfl⟩)
