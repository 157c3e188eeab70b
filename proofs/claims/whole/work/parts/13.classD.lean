set_option maxHeartbeats 4000000 in
set_option maxRecDepth 100000 in
theorem c_X0_takeCallsOfInput (l : Launch) (G : GS) (L : Nat → Nat) (hG : ok G) (hwh : whole G) : MCv wX tX l yX0_takeCallsOfInput wsX0_takeCallsOfInput ({ frames := 1, cells := 0, slots := 0, locals := 23 }) [] (G, L) (fun u => u = (ldG G ((G 10 0 + 1) / 4), L)) := by
  have hG0 := hG
  obtain ⟨b1, b2, b3, b4, b5, b6, b7, b8, b9, b10, b11⟩ := hG0
  refine x_startv (cc := cX0_takeCallsOfInput) (maxL := 2) (ret := none) (own := RX0) (by decide) rfl rfl (fun _ => Nat.le_of_ble_eq_true rfl) ?_
  intro p e s m args below meth c D h q cs F hK hr hlk Q0 hQ0
  refine x_lv (lv' := [(0, .ref h)]) [0] rfl ?_
  have hin : ∀ w ∈ wsX00, w ∈ wsX0_takeCallsOfInput := by decide +kernel
  have hm_inputLength : Cond.fieldLink RX0 77 "GossipSchedule" "inputLength" "I" ∈ wsX0_takeCallsOfInput := by decide +kernel
  have hm_roundTotal : Cond.fieldLink RX0 55 "GossipSchedule" "roundTotal" "I" ∈ wsX0_takeCallsOfInput := by decide +kernel
  have hm_input : Cond.fieldLink RX0 33 "GossipSchedule" "input" "[I" ∈ wsX0_takeCallsOfInput := by decide +kernel
  refine x_aload_n (pc := 0) F dX0_takeCallsOfInput_0 0 rfl rfl ?_
  refine x_callv (w := wX) (ty := tX) (pc := 1) F hK wX_in [] [] (c_X0_dropRounds l G L) (cwV 0 F.2.2.2.2 gX0_takeCallsOfInput_X0_dropRounds rfl rfl rfl (by decide +kernel) ⟨Nat.le_of_ble_eq_true rfl, Nat.le_of_ble_eq_true rfl⟩) rfl rfl rfl rfl (Nat.le_of_ble_eq_true rfl) dX0_takeCallsOfInput_1 ?_
  rintro _ rfl
  refine x_iconst (v := nI 0) (pc := 4) F dX0_takeCallsOfInput_4 (by decide) ?_
  refine x_istore_n (lv' := [(0, .ref h), (1, .int (nI 0))]) (pc := 5) F dX0_takeCallsOfInput_5 rfl (by decide) [1, 0] rfl ?_
  have cut_6 : ∀ (fu : Nat) (t : Nat), (4 * t ≤ G 10 0 + 1) → (G 10 0 + 1 - 4 * t) < fu → V p l e ({ frames := 1, cells := 0, slots := 0, locals := 23 }) s m args below meth c 2 0 0 Q0 (IC wX D h q cs s (ldG G t, L)) 6 [(0, .ref h), (1, .int (nI (4 * t)))] [] := by
    intro fu
    induction fu with
    | zero => intro t ht hfu; exact absurd hfu (Nat.not_lt_zero _)
    | succ fu ih_6 =>
      intro t ht hfu
      refine x_iload_n (pc := 6) F dX0_takeCallsOfInput_6 1 rfl rfl ?_
      refine x_iconst (v := nI 2) (pc := 7) F dX0_takeCallsOfInput_7 (by decide) ?_
      refine x_iadd (z := nI ((4 * t) + 2)) (pc := 8) F dX0_takeCallsOfInput_8 (nI_add (4 * t) 2) ?_
      refine x_aload_n (pc := 9) F dX0_takeCallsOfInput_9 0 rfl rfl ?_
      refine gX_inputLength (v := G 10 0) (pc := 10) F hK hin hm_inputLength (ldG_o G 0 (by decide) t) dX0_takeCallsOfInput_10 ?_
      refine x_icmpN_ge (tgt := 82) (pc := 13) F dX0_takeCallsOfInput_13 (by decide) (by omega) (by omega) (fun hc_13 => ?_) (fun hc_13 => ?_)
      · exact x_retv (w := wX) (ty := tX) (pc := 82) F hK hr hlk hQ0 dX0_takeCallsOfInput_82 (by rw [show (G 10 0 + 1) / 4 = t by omega])
      · obtain ⟨i1, i2, i3, i4, i5⟩ := in_ok hG hwh (t := t) (by omega)
        have hp1 : ldG G t 9 (4 * t - 1) ≤ 126 := by rw [ldG_o G _ (by decide) t]; exact (b10 _ (by omega)).2
        have hl3 := ldG_3 G t
        refine x_aload_n (pc := 16) F dX0_takeCallsOfInput_16 0 rfl rfl ?_
        refine x_iload_n (pc := 17) F dX0_takeCallsOfInput_17 1 rfl rfl ?_
        refine x_calli (w := wX) (ty := tX) (pc := 18) F hK wX_in [.int (nI (4 * t))] [] (c_X0_beginsRound l (ldG G t) L (4 * t) (by omega) (fun _ => hp1)) (cwV 1 F.2.2.2.2 gX0_takeCallsOfInput_X0_beginsRound rfl rfl rfl (by decide +kernel) ⟨Nat.le_of_ble_eq_true rfl, Nat.le_of_ble_eq_true rfl⟩) rfl rfl rfl rfl (Nat.le_of_ble_eq_true rfl) dX0_takeCallsOfInput_18 ?_
        rintro _ _ ⟨rfl, rfl⟩
        refine x_ifB_eq (tgt := 34) (pc := 21) F dX0_takeCallsOfInput_21 (by decide) (fun hc_21 => ?_) (fun hc_21 => ?_)
        · refine x_aload_n (pc := 34) F dX0_takeCallsOfInput_34 0 rfl rfl ?_
          refine x_aload_n (pc := 35) F dX0_takeCallsOfInput_35 0 rfl rfl ?_
          refine gX_input (pc := 36) F hK hin hm_input dX0_takeCallsOfInput_36 ?_
          refine x_iload_n (pc := 39) F dX0_takeCallsOfInput_39 1 rfl rfl ?_
          refine lX_input (v := G 9 (4 * t)) (pc := 40) F hK dX0_takeCallsOfInput_40 (by omega) (ldG_o G _ (by decide) t) ?_
          refine x_bipush (v := nI 48) (pc := 41) F dX0_takeCallsOfInput_41 (by decide) ?_
          refine x_isub (z := nI ((G 9 (4 * t)) - 48)) (pc := 43) F dX0_takeCallsOfInput_43 (pk_sub (by omega)) ?_
          refine x_aload_n (pc := 44) F dX0_takeCallsOfInput_44 0 rfl rfl ?_
          refine gX_input (pc := 45) F hK hin hm_input dX0_takeCallsOfInput_45 ?_
          refine x_iload_n (pc := 48) F dX0_takeCallsOfInput_48 1 rfl rfl ?_
          refine x_iconst (v := nI 2) (pc := 49) F dX0_takeCallsOfInput_49 (by decide) ?_
          refine x_iadd (z := nI ((4 * t) + 2)) (pc := 50) F dX0_takeCallsOfInput_50 (nI_add (4 * t) 2) ?_
          refine lX_input (v := G 9 (4 * t + 2)) (pc := 51) F hK dX0_takeCallsOfInput_51 (by omega) (ldG_o G _ (by decide) t) ?_
          refine x_bipush (v := nI 48) (pc := 52) F dX0_takeCallsOfInput_52 (by decide) ?_
          refine x_isub (z := nI ((G 9 (4 * t + 2)) - 48)) (pc := 54) F dX0_takeCallsOfInput_54 (pk_sub (by omega)) ?_
          refine x_aload_n (pc := 55) F dX0_takeCallsOfInput_55 0 rfl rfl ?_
          refine gX_input (pc := 56) F hK hin hm_input dX0_takeCallsOfInput_56 ?_
          refine x_iload_n (pc := 59) F dX0_takeCallsOfInput_59 1 rfl rfl ?_
          refine x_iconst (v := nI 1) (pc := 60) F dX0_takeCallsOfInput_60 (by decide) ?_
          refine x_iadd (z := nI ((4 * t) + 1)) (pc := 61) F dX0_takeCallsOfInput_61 (nI_add (4 * t) 1) ?_
          refine lX_input (v := G 9 (4 * t + 1)) (pc := 62) F hK dX0_takeCallsOfInput_62 (by omega) (ldG_o G _ (by decide) t) ?_
          refine x_bipush (v := nI 62) (pc := 63) F dX0_takeCallsOfInput_63 (by decide) ?_
          refine x_icmpN_ne (tgt := 72) (pc := 65) F dX0_takeCallsOfInput_65 (by decide) (by omega) (by decide) (fun hc_65 => ?_) (fun hc_65 => ?_)
          · refine x_iconst (v := nI 0) (pc := 72) F dX0_takeCallsOfInput_72 (by decide) ?_
            refine x_callv (w := wX) (ty := tX) (pc := 73) F hK wX_in [.int (nI ((G 9 (4 * t)) - 48)), .int (nI ((G 9 (4 * t + 2)) - 48)), .int (nI 0)] [] (c_X0_putCall l (ldG G t) L ((G 9 (4 * t)) - 48) ((G 9 (4 * t + 2)) - 48) 0 (by omega) (by have hq_4 : (ldG G t) 4 0 = t := (ldG_4 G t); omega) (by have hq_3 : (ldG G t) 3 0 = (ldG G t) 3 0 := rfl; omega)) (cwV 3 F.2.2.2.2 gX0_takeCallsOfInput_X0_putCall rfl rfl rfl (by decide +kernel) ⟨Nat.le_of_ble_eq_true rfl, Nat.le_of_ble_eq_true rfl⟩) rfl rfl rfl rfl (Nat.le_of_ble_eq_true rfl) dX0_takeCallsOfInput_73 ?_
            rintro _ rfl
            refine x_iinc (v := nI ((4 * t) + 4)) (lv' := [(0, .ref h), (1, .int (nI ((4 * t) + 4)))]) (pc := 76) F dX0_takeCallsOfInput_76 1 rfl (nx_inc (b := 4) (4 * t) (by decide)) (by decide) [1, 0] rfl ?_
            refine x_goto (tgt := 6) (pc := 79) F dX0_takeCallsOfInput_79 (by decide) ?_
            refine x_I (congrArg (fun g => IC wX D h q cs s (g, L)) (show putG (ldG G t) ((G 9 (4 * t)) - 48) ((G 9 (4 * t + 2)) - 48) 0 = ldG G (t + 1) from by rw [ldG_s2 (by rw [ldG_o G _ (by decide) t] at hc_21; omega), inW, bN_f hc_65])) ?_
            refine x_lv [0, 1] rfl ?_
            exact ih_6 (t + 1) (by omega) (by omega)
          · refine x_iconst (v := nI 1) (pc := 68) F dX0_takeCallsOfInput_68 (by decide) ?_
            refine x_goto (tgt := 73) (pc := 69) F dX0_takeCallsOfInput_69 (by decide) ?_
            refine x_callv (w := wX) (ty := tX) (pc := 73) F hK wX_in [.int (nI ((G 9 (4 * t)) - 48)), .int (nI ((G 9 (4 * t + 2)) - 48)), .int (nI 1)] [] (c_X0_putCall l (ldG G t) L ((G 9 (4 * t)) - 48) ((G 9 (4 * t + 2)) - 48) 1 (by omega) (by have hq_4 : (ldG G t) 4 0 = t := (ldG_4 G t); omega) (by have hq_3 : (ldG G t) 3 0 = (ldG G t) 3 0 := rfl; omega)) (cwV 3 F.2.2.2.2 gX0_takeCallsOfInput_X0_putCall rfl rfl rfl (by decide +kernel) ⟨Nat.le_of_ble_eq_true rfl, Nat.le_of_ble_eq_true rfl⟩) rfl rfl rfl rfl (Nat.le_of_ble_eq_true rfl) dX0_takeCallsOfInput_73 ?_
            rintro _ rfl
            refine x_iinc (v := nI ((4 * t) + 4)) (lv' := [(0, .ref h), (1, .int (nI ((4 * t) + 4)))]) (pc := 76) F dX0_takeCallsOfInput_76 1 rfl (nx_inc (b := 4) (4 * t) (by decide)) (by decide) [1, 0] rfl ?_
            refine x_goto (tgt := 6) (pc := 79) F dX0_takeCallsOfInput_79 (by decide) ?_
            refine x_I (congrArg (fun g => IC wX D h q cs s (g, L)) (show putG (ldG G t) ((G 9 (4 * t)) - 48) ((G 9 (4 * t + 2)) - 48) 1 = ldG G (t + 1) from by rw [ldG_s2 (by rw [ldG_o G _ (by decide) t] at hc_21; omega), inW, bN_t hc_65])) ?_
            refine x_lv [0, 1] rfl ?_
            exact ih_6 (t + 1) (by omega) (by omega)
        · refine x_aload_n (pc := 24) F dX0_takeCallsOfInput_24 0 rfl rfl ?_
          refine x_dup (pc := 25) F dX0_takeCallsOfInput_25 rfl ?_
          refine gX_roundTotal (v := (ldG G t) 3 0) (pc := 26) F hK hin hm_roundTotal rfl dX0_takeCallsOfInput_26 ?_
          refine x_iconst (v := nI 1) (pc := 29) F dX0_takeCallsOfInput_29 (by decide) ?_
          refine x_iadd (z := nI (((ldG G t) 3 0) + 1)) (pc := 30) F dX0_takeCallsOfInput_30 (nI_add ((ldG G t) 3 0) 1) ?_
          refine pX_roundTotal (pc := 31) F hK hin hm_roundTotal dX0_takeCallsOfInput_31 ?_
          refine x_aload_n (pc := 34) F dX0_takeCallsOfInput_34 0 rfl rfl ?_
          refine x_aload_n (pc := 35) F dX0_takeCallsOfInput_35 0 rfl rfl ?_
          refine gX_input (pc := 36) F hK hin hm_input dX0_takeCallsOfInput_36 ?_
          refine x_iload_n (pc := 39) F dX0_takeCallsOfInput_39 1 rfl rfl ?_
          refine lX_input (v := G 9 (4 * t)) (pc := 40) F hK dX0_takeCallsOfInput_40 (by omega) (ldG_o G _ (by decide) t) ?_
          refine x_bipush (v := nI 48) (pc := 41) F dX0_takeCallsOfInput_41 (by decide) ?_
          refine x_isub (z := nI ((G 9 (4 * t)) - 48)) (pc := 43) F dX0_takeCallsOfInput_43 (pk_sub (by omega)) ?_
          refine x_aload_n (pc := 44) F dX0_takeCallsOfInput_44 0 rfl rfl ?_
          refine gX_input (pc := 45) F hK hin hm_input dX0_takeCallsOfInput_45 ?_
          refine x_iload_n (pc := 48) F dX0_takeCallsOfInput_48 1 rfl rfl ?_
          refine x_iconst (v := nI 2) (pc := 49) F dX0_takeCallsOfInput_49 (by decide) ?_
          refine x_iadd (z := nI ((4 * t) + 2)) (pc := 50) F dX0_takeCallsOfInput_50 (nI_add (4 * t) 2) ?_
          refine lX_input (v := G 9 (4 * t + 2)) (pc := 51) F hK dX0_takeCallsOfInput_51 (by omega) (ldG_o G _ (by decide) t) ?_
          refine x_bipush (v := nI 48) (pc := 52) F dX0_takeCallsOfInput_52 (by decide) ?_
          refine x_isub (z := nI ((G 9 (4 * t + 2)) - 48)) (pc := 54) F dX0_takeCallsOfInput_54 (pk_sub (by omega)) ?_
          refine x_aload_n (pc := 55) F dX0_takeCallsOfInput_55 0 rfl rfl ?_
          refine gX_input (pc := 56) F hK hin hm_input dX0_takeCallsOfInput_56 ?_
          refine x_iload_n (pc := 59) F dX0_takeCallsOfInput_59 1 rfl rfl ?_
          refine x_iconst (v := nI 1) (pc := 60) F dX0_takeCallsOfInput_60 (by decide) ?_
          refine x_iadd (z := nI ((4 * t) + 1)) (pc := 61) F dX0_takeCallsOfInput_61 (nI_add (4 * t) 1) ?_
          refine lX_input (v := G 9 (4 * t + 1)) (pc := 62) F hK dX0_takeCallsOfInput_62 (by omega) (ldG_o G _ (by decide) t) ?_
          refine x_bipush (v := nI 62) (pc := 63) F dX0_takeCallsOfInput_63 (by decide) ?_
          refine x_icmpN_ne (tgt := 72) (pc := 65) F dX0_takeCallsOfInput_65 (by decide) (by omega) (by decide) (fun hc_65 => ?_) (fun hc_65 => ?_)
          · refine x_iconst (v := nI 0) (pc := 72) F dX0_takeCallsOfInput_72 (by decide) ?_
            refine x_callv (w := wX) (ty := tX) (pc := 73) F hK wX_in [.int (nI ((G 9 (4 * t)) - 48)), .int (nI ((G 9 (4 * t + 2)) - 48)), .int (nI 0)] [] (c_X0_putCall l (up (ldG G t) 3 0 (((ldG G t) 3 0) + 1)) L ((G 9 (4 * t)) - 48) ((G 9 (4 * t + 2)) - 48) 0 (by omega) (by have hq_4 : (up (ldG G t) 3 0 (((ldG G t) 3 0) + 1)) 4 0 = t := (ldG_4 G t); omega) (by have hq_3 : (up (ldG G t) 3 0 (((ldG G t) 3 0) + 1)) 3 0 = ((ldG G t) 3 0) + 1 := rfl; omega)) (cwV 3 F.2.2.2.2 gX0_takeCallsOfInput_X0_putCall rfl rfl rfl (by decide +kernel) ⟨Nat.le_of_ble_eq_true rfl, Nat.le_of_ble_eq_true rfl⟩) rfl rfl rfl rfl (Nat.le_of_ble_eq_true rfl) dX0_takeCallsOfInput_73 ?_
            rintro _ rfl
            refine x_iinc (v := nI ((4 * t) + 4)) (lv' := [(0, .ref h), (1, .int (nI ((4 * t) + 4)))]) (pc := 76) F dX0_takeCallsOfInput_76 1 rfl (nx_inc (b := 4) (4 * t) (by decide)) (by decide) [1, 0] rfl ?_
            refine x_goto (tgt := 6) (pc := 79) F dX0_takeCallsOfInput_79 (by decide) ?_
            refine x_I (congrArg (fun g => IC wX D h q cs s (g, L)) (show putG (up (ldG G t) 3 0 (((ldG G t) 3 0) + 1)) ((G 9 (4 * t)) - 48) ((G 9 (4 * t + 2)) - 48) 0 = ldG G (t + 1) from by rw [ldG_s1 (by rw [ldG_o G _ (by decide) t] at hc_21; omega), inW, bN_f hc_65])) ?_
            refine x_lv [0, 1] rfl ?_
            exact ih_6 (t + 1) (by omega) (by omega)
          · refine x_iconst (v := nI 1) (pc := 68) F dX0_takeCallsOfInput_68 (by decide) ?_
            refine x_goto (tgt := 73) (pc := 69) F dX0_takeCallsOfInput_69 (by decide) ?_
            refine x_callv (w := wX) (ty := tX) (pc := 73) F hK wX_in [.int (nI ((G 9 (4 * t)) - 48)), .int (nI ((G 9 (4 * t + 2)) - 48)), .int (nI 1)] [] (c_X0_putCall l (up (ldG G t) 3 0 (((ldG G t) 3 0) + 1)) L ((G 9 (4 * t)) - 48) ((G 9 (4 * t + 2)) - 48) 1 (by omega) (by have hq_4 : (up (ldG G t) 3 0 (((ldG G t) 3 0) + 1)) 4 0 = t := (ldG_4 G t); omega) (by have hq_3 : (up (ldG G t) 3 0 (((ldG G t) 3 0) + 1)) 3 0 = ((ldG G t) 3 0) + 1 := rfl; omega)) (cwV 3 F.2.2.2.2 gX0_takeCallsOfInput_X0_putCall rfl rfl rfl (by decide +kernel) ⟨Nat.le_of_ble_eq_true rfl, Nat.le_of_ble_eq_true rfl⟩) rfl rfl rfl rfl (Nat.le_of_ble_eq_true rfl) dX0_takeCallsOfInput_73 ?_
            rintro _ rfl
            refine x_iinc (v := nI ((4 * t) + 4)) (lv' := [(0, .ref h), (1, .int (nI ((4 * t) + 4)))]) (pc := 76) F dX0_takeCallsOfInput_76 1 rfl (nx_inc (b := 4) (4 * t) (by decide)) (by decide) [1, 0] rfl ?_
            refine x_goto (tgt := 6) (pc := 79) F dX0_takeCallsOfInput_79 (by decide) ?_
            refine x_I (congrArg (fun g => IC wX D h q cs s (g, L)) (show putG (up (ldG G t) 3 0 (((ldG G t) 3 0) + 1)) ((G 9 (4 * t)) - 48) ((G 9 (4 * t + 2)) - 48) 1 = ldG G (t + 1) from by rw [ldG_s1 (by rw [ldG_o G _ (by decide) t] at hc_21; omega), inW, bN_t hc_65])) ?_
            refine x_lv [0, 1] rfl ?_
            exact ih_6 (t + 1) (by omega) (by omega)
  refine x_lv [0, 1] rfl ?_
  exact cut_6 ((G 10 0 + 1 - 4 * 0) + 1) 0 (Nat.zero_le _) (Nat.lt_succ_self _)
