set_option maxHeartbeats 4000000 in
set_option maxRecDepth 100000 in
theorem c_X1_isBusyBefore (l : Launch) (G : GS) (K : Nat → Nat) (hs : Int64) (t pp dg : Nat) (hd : dg = pp + 48) (hp : pp < 8) (ht : 4 * t + 2 < G 10 0) (hG : ok G) (hwh : whole G) : MCi wM tM l yX1_isBusyBefore wsX1_isBusyBefore ({ frames := 0, cells := 0, slots := 0, locals := 0 }) [.int (nI (4 * t)), .int (nI dg)] (G, K, hs) (fun r u => u = (G, K, hs) ∧ r = nI (bN (bsy G pp t = true))) := by
  have hG0 := hG
  obtain ⟨b1, b2, b3, b4, b5, b6, b7, b8, b9, b10, b11⟩ := hG0
  refine x_starti (cc := cX1_isBusyBefore) (maxL := 5) (ret := (some .boolean)) (own := RX1) (by decide) rfl rfl (fun _ => Nat.le_of_ble_eq_true rfl) ?_
  intro p e s m args below meth c D h q cs F hK hr hlk Q0 hQ0
  refine x_lv (lv' := [(0, .ref h), (1, .int (nI (4 * t))), (2, .int (nI dg))]) [0, 1, 2] rfl ?_
  have hin : ∀ w ∈ wsX10, w ∈ wsX1_isBusyBefore := by decide +kernel
  have hm_buffer : Cond.fieldLink RX1 27 "GossipScheduleModel" "buffer" "[I" ∈ wsX1_isBusyBefore := by decide +kernel
  refine x_iconst (v := nI 0) (pc := 0) F dX1_isBusyBefore_0 (by decide) ?_
  refine x_istore_n (lv' := [(0, .ref h), (1, .int (nI (4 * t))), (2, .int (nI dg)), (3, .int (nI 0))]) (pc := 1) F dX1_isBusyBefore_1 rfl (by decide) [1, 2, 3, 0] rfl ?_
  refine x_iload_n (pc := 2) F dX1_isBusyBefore_2 1 rfl rfl ?_
  refine x_istore (lv' := [(0, .ref h), (1, .int (nI (4 * t))), (2, .int (nI dg)), (3, .int (nI 0)), (4, .int (nI (4 * t)))]) (pc := 3) F dX1_isBusyBefore_3 (by decide) [1, 2, 3, 4, 0] rfl ?_
  have cut_5 : ∀ (fu : Nat) (tt : Nat) (z : Nat), (tt ≤ t) → (bsI G pp t tt z) → (tt) < fu → V p l e ({ frames := 0, cells := 0, slots := 0, locals := 0 }) s m args below meth c 5 0 0 Q0 (IC wM D h q cs s (G, K, hs)) 5 [(0, .ref h), (1, .int (nI (4 * t))), (2, .int (nI dg)), (3, .int (nI z)), (4, .int (nI (4 * tt)))] [] := by
    intro fu
    induction fu with
    | zero => intro tt z htt hz hfu; exact absurd hfu (Nat.not_lt_zero _)
    | succ fu ih_5 =>
      intro tt z htt hz hfu
      refine x_iload (pc := 5) F dX1_isBusyBefore_5 4 rfl ?_
      refine x_ifN_le (tgt := 66) (pc := 7) F dX1_isBusyBefore_7 (by decide) (by omega) (fun hc_7 => ?_) (fun hc_7 => ?_)
      · refine x_iload_n (pc := 66) F dX1_isBusyBefore_66 3 rfl rfl ?_
        exact x_retz (w := wM) (ty := tM) (pc := 67) F hK hr hlk hQ0 (nar_z _ hz.1) dX1_isBusyBefore_67 (⟨rfl, bsI_e hz (by rw [show tt = 0 by omega]; rfl)⟩)
      · obtain ⟨u, rfl⟩ : ∃ u, tt = u + 1 := ⟨tt - 1, by omega⟩
        have hv1 := b10 (4 * u + 3) (by omega)
        have hv2 := b10 (4 * u) (by omega)
        have hv3 := b10 (4 * u + 2) (by omega)
        refine x_aload_n (pc := 10) F dX1_isBusyBefore_10 0 rfl rfl ?_
        refine gM_buffer (pc := 11) F hK hin hm_buffer dX1_isBusyBefore_11 ?_
        refine x_iload (pc := 14) F dX1_isBusyBefore_14 4 rfl ?_
        refine x_iconst (v := nI 1) (pc := 16) F dX1_isBusyBefore_16 (by decide) ?_
        refine x_isub (z := nI ((4 * (u + 1)) - 1)) (pc := 17) F dX1_isBusyBefore_17 (pk_sub (by omega)) ?_
        refine lM_buffer (v := G 9 (4 * u + 3)) (pc := 18) F hK dX1_isBusyBefore_18 (by omega) (congrArg (G 9) (by omega)) ?_
        refine x_bipush (v := nI 44) (pc := 19) F dX1_isBusyBefore_19 (by decide) ?_
        refine x_icmpN_ne (tgt := 66) (pc := 21) F dX1_isBusyBefore_21 (by decide) (by omega) (by decide) (fun hc_21 => ?_) (fun hc_21 => ?_)
        · refine x_iload_n (pc := 66) F dX1_isBusyBefore_66 3 rfl rfl ?_
          exact x_retz (w := wM) (ty := tM) (pc := 67) F hK hr hlk hQ0 (nar_z _ hz.1) dX1_isBusyBefore_67 (⟨rfl, bsI_e hz (bsy_n hc_21)⟩)
        · have hin0 := in_ok hG hwh (t := u) (by omega)
          have i1 := hin0.1
          have i2 := hin0.2.1
          have eA : inA G u = G 9 (4 * u) - 48 := rfl
          have eB : inB G u = G 9 (4 * u + 2) - 48 := rfl
          refine x_iload_n (pc := 24) F dX1_isBusyBefore_24 3 rfl rfl ?_
          refine x_ifN_ne (tgt := 54) (pc := 25) F dX1_isBusyBefore_25 (by decide) (Nat.lt_trans hz.1 (by decide)) (fun hc_25 => ?_) (fun hc_25 => ?_)
          · refine x_iconst (v := nI 1) (pc := 54) F dX1_isBusyBefore_54 (by decide) ?_
            refine x_goto (tgt := 59) (pc := 55) F dX1_isBusyBefore_55 (by decide) ?_
            refine x_istore_n (lv' := [(0, .ref h), (1, .int (nI (4 * t))), (2, .int (nI dg)), (3, .int (nI 1)), (4, .int (nI (4 * (u + 1))))]) (pc := 59) F dX1_isBusyBefore_59 rfl (by decide) [1, 2, 3, 0, 4] rfl ?_
            refine x_iinc (v := nI (4 * u)) (lv' := [(0, .ref h), (1, .int (nI (4 * t))), (2, .int (nI dg)), (3, .int (nI 1)), (4, .int (nI (4 * u)))]) (pc := 60) F dX1_isBusyBefore_60 4 rfl ((nx_dec (b := 4) (by decide) (by omega)).trans (congrArg nI (by omega))) (by decide) [1, 2, 3, 4, 0] rfl ?_
            refine x_goto (tgt := 5) (pc := 63) F dX1_isBusyBefore_63 (by decide) ?_
            refine x_lv [0, 1, 2, 3, 4] rfl ?_
            exact ih_5 u 1 (by omega) (bsI_1 hz (Or.inl (by have := hz.1; omega))) (by omega)
          · refine x_aload_n (pc := 28) F dX1_isBusyBefore_28 0 rfl rfl ?_
            refine gM_buffer (pc := 29) F hK hin hm_buffer dX1_isBusyBefore_29 ?_
            refine x_iload (pc := 32) F dX1_isBusyBefore_32 4 rfl ?_
            refine x_iconst (v := nI 4) (pc := 34) F dX1_isBusyBefore_34 (by decide) ?_
            refine x_isub (z := nI ((4 * (u + 1)) - 4)) (pc := 35) F dX1_isBusyBefore_35 (pk_sub (by omega)) ?_
            refine lM_buffer (v := G 9 (4 * u)) (pc := 36) F hK dX1_isBusyBefore_36 (by omega) (congrArg (G 9) (by omega)) ?_
            refine x_iload_n (pc := 37) F dX1_isBusyBefore_37 2 rfl rfl ?_
            refine x_icmpN_eq (tgt := 54) (pc := 38) F dX1_isBusyBefore_38 (by decide) (by omega) (by omega) (fun hc_38 => ?_) (fun hc_38 => ?_)
            · refine x_iconst (v := nI 1) (pc := 54) F dX1_isBusyBefore_54 (by decide) ?_
              refine x_goto (tgt := 59) (pc := 55) F dX1_isBusyBefore_55 (by decide) ?_
              refine x_istore_n (lv' := [(0, .ref h), (1, .int (nI (4 * t))), (2, .int (nI dg)), (3, .int (nI 1)), (4, .int (nI (4 * (u + 1))))]) (pc := 59) F dX1_isBusyBefore_59 rfl (by decide) [1, 2, 3, 0, 4] rfl ?_
              refine x_iinc (v := nI (4 * u)) (lv' := [(0, .ref h), (1, .int (nI (4 * t))), (2, .int (nI dg)), (3, .int (nI 1)), (4, .int (nI (4 * u)))]) (pc := 60) F dX1_isBusyBefore_60 4 rfl ((nx_dec (b := 4) (by decide) (by omega)).trans (congrArg nI (by omega))) (by decide) [1, 2, 3, 4, 0] rfl ?_
              refine x_goto (tgt := 5) (pc := 63) F dX1_isBusyBefore_63 (by decide) ?_
              refine x_lv [0, 1, 2, 3, 4] rfl ?_
              exact ih_5 u 1 (by omega) (bsI_1 hz (Or.inr ⟨hc_21, by omega⟩)) (by omega)
            · refine x_aload_n (pc := 41) F dX1_isBusyBefore_41 0 rfl rfl ?_
              refine gM_buffer (pc := 42) F hK hin hm_buffer dX1_isBusyBefore_42 ?_
              refine x_iload (pc := 45) F dX1_isBusyBefore_45 4 rfl ?_
              refine x_iconst (v := nI 2) (pc := 47) F dX1_isBusyBefore_47 (by decide) ?_
              refine x_isub (z := nI ((4 * (u + 1)) - 2)) (pc := 48) F dX1_isBusyBefore_48 (pk_sub (by omega)) ?_
              refine lM_buffer (v := G 9 (4 * u + 2)) (pc := 49) F hK dX1_isBusyBefore_49 (by omega) (congrArg (G 9) (by omega)) ?_
              refine x_iload_n (pc := 50) F dX1_isBusyBefore_50 2 rfl rfl ?_
              refine x_icmpN_ne (tgt := 58) (pc := 51) F dX1_isBusyBefore_51 (by decide) (by omega) (by omega) (fun hc_51 => ?_) (fun hc_51 => ?_)
              · refine x_iconst (v := nI 0) (pc := 58) F dX1_isBusyBefore_58 (by decide) ?_
                refine x_istore_n (lv' := [(0, .ref h), (1, .int (nI (4 * t))), (2, .int (nI dg)), (3, .int (nI 0)), (4, .int (nI (4 * (u + 1))))]) (pc := 59) F dX1_isBusyBefore_59 rfl (by decide) [1, 2, 3, 0, 4] rfl ?_
                refine x_iinc (v := nI (4 * u)) (lv' := [(0, .ref h), (1, .int (nI (4 * t))), (2, .int (nI dg)), (3, .int (nI 0)), (4, .int (nI (4 * u)))]) (pc := 60) F dX1_isBusyBefore_60 4 rfl ((nx_dec (b := 4) (by decide) (by omega)).trans (congrArg nI (by omega))) (by decide) [1, 2, 3, 4, 0] rfl ?_
                refine x_goto (tgt := 5) (pc := 63) F dX1_isBusyBefore_63 (by decide) ?_
                refine x_lv [0, 1, 2, 3, 4] rfl ?_
                exact ih_5 u 0 (by omega) (bsI_n hz hc_25 hc_21 (by omega)) (by omega)
              · refine x_iconst (v := nI 1) (pc := 54) F dX1_isBusyBefore_54 (by decide) ?_
                refine x_goto (tgt := 59) (pc := 55) F dX1_isBusyBefore_55 (by decide) ?_
                refine x_istore_n (lv' := [(0, .ref h), (1, .int (nI (4 * t))), (2, .int (nI dg)), (3, .int (nI 1)), (4, .int (nI (4 * (u + 1))))]) (pc := 59) F dX1_isBusyBefore_59 rfl (by decide) [1, 2, 3, 0, 4] rfl ?_
                refine x_iinc (v := nI (4 * u)) (lv' := [(0, .ref h), (1, .int (nI (4 * t))), (2, .int (nI dg)), (3, .int (nI 1)), (4, .int (nI (4 * u)))]) (pc := 60) F dX1_isBusyBefore_60 4 rfl ((nx_dec (b := 4) (by decide) (by omega)).trans (congrArg nI (by omega))) (by decide) [1, 2, 3, 4, 0] rfl ?_
                refine x_goto (tgt := 5) (pc := 63) F dX1_isBusyBefore_63 (by decide) ?_
                refine x_lv [0, 1, 2, 3, 4] rfl ?_
                exact ih_5 u 1 (by omega) (bsI_1 hz (Or.inr ⟨hc_21, by omega⟩)) (by omega)
  refine x_lv [0, 1, 2, 3, 4] rfl ?_
  exact cut_5 ((t) + 1) t 0 (Nat.le_refl _) (bsI_0 G pp t) (Nat.lt_succ_self _)
set_option maxHeartbeats 4000000 in
set_option maxRecDepth 100000 in
theorem c_X1_errorOfBuffer (l : Launch) (G : GS) (K : Nat → Nat) (hs : Int64) (hG : ok G) (hwh : whole G) : MCi wM tM l yX1_errorOfBuffer wsX1_errorOfBuffer ({ frames := 1, cells := 0, slots := 0, locals := 25 }) [] (G, K, hs) (fun r u => u = (G, K, hs) ∧ r = er G) := by
  have hG0 := hG
  obtain ⟨b1, b2, b3, b4, b5, b6, b7, b8, b9, b10, b11⟩ := hG0
  refine x_starti (cc := cX1_errorOfBuffer) (maxL := 2) (ret := (some .int)) (own := RX1) (by decide) rfl rfl (fun _ => Nat.le_of_ble_eq_true rfl) ?_
  intro p e s m args below meth c D h q cs F hK hr hlk Q0 hQ0
  refine x_lv (lv' := [(0, .ref h)]) [0] rfl ?_
  have hin : ∀ w ∈ wsX10, w ∈ wsX1_errorOfBuffer := by decide +kernel
  have hm_length : Cond.fieldLink RX1 72 "GossipScheduleModel" "length" "I" ∈ wsX1_errorOfBuffer := by decide +kernel
  have hm_buffer : Cond.fieldLink RX1 27 "GossipScheduleModel" "buffer" "[I" ∈ wsX1_errorOfBuffer := by decide +kernel
  refine x_iconst (v := nI 0) (pc := 0) F dX1_errorOfBuffer_0 (by decide) ?_
  refine x_istore_n (lv' := [(0, .ref h), (1, .int (nI 0))]) (pc := 1) F dX1_errorOfBuffer_1 rfl (by decide) [1, 0] rfl ?_
  have cut_2 : ∀ (fu : Nat) (t : Nat), (4 * t ≤ G 10 0 + 1) → (erF G ((G 10 0 + 1) / 4 - t) t = er G) → (G 10 0 + 1 - 4 * t) < fu → V p l e ({ frames := 1, cells := 0, slots := 0, locals := 25 }) s m args below meth c 2 0 0 Q0 (IC wM D h q cs s (G, K, hs)) 2 [(0, .ref h), (1, .int (nI (4 * t)))] [] := by
    intro fu
    induction fu with
    | zero => intro t ht her hfu; exact absurd hfu (Nat.not_lt_zero _)
    | succ fu ih_2 =>
      intro t ht her hfu
      refine x_iload_n (pc := 2) F dX1_errorOfBuffer_2 1 rfl rfl ?_
      refine x_aload_n (pc := 3) F dX1_errorOfBuffer_3 0 rfl rfl ?_
      refine gM_length (v := G 10 0) (pc := 4) F hK hin hm_length rfl dX1_errorOfBuffer_4 ?_
      refine x_icmpN_ge (tgt := 107) (pc := 7) F dX1_errorOfBuffer_7 (by decide) (by omega) (by omega) (fun hc_7 => ?_) (fun hc_7 => ?_)
      · refine x_iconst (v := nI 0) (pc := 107) F dX1_errorOfBuffer_107 (by decide) ?_
        exact x_reti (w := wM) (ty := tM) (pc := 108) F hK hr hlk hQ0 dX1_errorOfBuffer_108 (⟨rfl, by rw [← her, show (G 10 0 + 1) / 4 - t = 0 by omega]; rfl⟩)
      · obtain ⟨i1, i2, i3, i4, i5⟩ := in_ok hG hwh (t := t) (by omega)
        have ia : inA G t < 8 := show G 9 (4 * t) - 48 < 8 by omega
        have ib : inB G t < 8 := show G 9 (4 * t + 2) - 48 < 8 by omega
        have eA : inA G t = G 9 (4 * t) - 48 := rfl
        have eB : inB G t = G 9 (4 * t + 2) - 48 := rfl
        refine x_aload_n (pc := 10) F dX1_errorOfBuffer_10 0 rfl rfl ?_
        refine x_aload_n (pc := 11) F dX1_errorOfBuffer_11 0 rfl rfl ?_
        refine gM_buffer (pc := 12) F hK hin hm_buffer dX1_errorOfBuffer_12 ?_
        refine x_iload_n (pc := 15) F dX1_errorOfBuffer_15 1 rfl rfl ?_
        refine lM_buffer (v := G 9 (4 * t)) (pc := 16) F hK dX1_errorOfBuffer_16 (by omega) rfl ?_
        refine x_bipush (v := nI 48) (pc := 17) F dX1_errorOfBuffer_17 (by decide) ?_
        refine x_isub (z := nI ((G 9 (4 * t)) - 48)) (pc := 19) F dX1_errorOfBuffer_19 (pk_sub (by omega)) ?_
        refine x_aload_n (pc := 20) F dX1_errorOfBuffer_20 0 rfl rfl ?_
        refine gM_buffer (pc := 21) F hK hin hm_buffer dX1_errorOfBuffer_21 ?_
        refine x_iload_n (pc := 24) F dX1_errorOfBuffer_24 1 rfl rfl ?_
        refine x_iconst (v := nI 2) (pc := 25) F dX1_errorOfBuffer_25 (by decide) ?_
        refine x_iadd (z := nI ((4 * t) + 2)) (pc := 26) F dX1_errorOfBuffer_26 (nI_add (4 * t) 2) ?_
        refine lM_buffer (v := G 9 ((4 * t) + 2)) (pc := 27) F hK dX1_errorOfBuffer_27 (by omega) rfl ?_
        refine x_bipush (v := nI 48) (pc := 28) F dX1_errorOfBuffer_28 (by decide) ?_
        refine x_isub (z := nI ((G 9 ((4 * t) + 2)) - 48)) (pc := 30) F dX1_errorOfBuffer_30 (pk_sub (by omega)) ?_
        refine x_calli (w := wM) (ty := tM) (pc := 31) F hK wM_in [.int (nI ((G 9 (4 * t)) - 48)), .int (nI ((G 9 ((4 * t) + 2)) - 48))] [] (c_X1_isEdge l G K hs ((G 9 (4 * t)) - 48) ((G 9 ((4 * t) + 2)) - 48) (by have hq_0 : G 0 0 = G 0 0 := rfl; omega) (by have hq_0 : G 0 0 = G 0 0 := rfl; omega) (by have hq_0 : G 0 0 = G 0 0 := rfl; omega) (by have hq_2 : G 2 0 = G 2 0 := rfl; omega) (by have hq_0 : G 0 0 = G 0 0 := rfl; omega)) (cwV 2 F.2.2.2.2 gX1_errorOfBuffer_X1_isEdge rfl rfl rfl (by decide +kernel) ⟨Nat.le_of_ble_eq_true rfl, Nat.le_of_ble_eq_true rfl⟩) rfl rfl rfl rfl (Nat.le_of_ble_eq_true rfl) dX1_errorOfBuffer_31 ?_
        rintro _ _ ⟨rfl, rfl⟩
        refine x_ifB_ne (tgt := 40) (pc := 34) F dX1_errorOfBuffer_34 (by decide) (fun hc_34 => ?_) (fun hc_34 => ?_)
        · refine x_aload_n (pc := 40) F dX1_errorOfBuffer_40 0 rfl rfl ?_
          refine x_iload_n (pc := 41) F dX1_errorOfBuffer_41 1 rfl rfl ?_
          refine x_aload_n (pc := 42) F dX1_errorOfBuffer_42 0 rfl rfl ?_
          refine gM_buffer (pc := 43) F hK hin hm_buffer dX1_errorOfBuffer_43 ?_
          refine x_iload_n (pc := 46) F dX1_errorOfBuffer_46 1 rfl rfl ?_
          refine lM_buffer (v := G 9 (4 * t)) (pc := 47) F hK dX1_errorOfBuffer_47 (by omega) rfl ?_
          refine x_calli (w := wM) (ty := tM) (pc := 48) F hK wM_in [.int (nI (4 * t)), .int (nI (G 9 (4 * t)))] [] (c_X1_isBusyBefore l G K hs t (inA G t) (G 9 (4 * t)) (by omega) ia (by omega) hG hwh) (cwV 2 F.2.2.2.2 gX1_errorOfBuffer_X1_isBusyBefore rfl rfl rfl (by decide +kernel) ⟨Nat.le_of_ble_eq_true rfl, Nat.le_of_ble_eq_true rfl⟩) rfl rfl rfl rfl (Nat.le_of_ble_eq_true rfl) dX1_errorOfBuffer_48 ?_
          rintro _ _ ⟨rfl, rfl⟩
          refine x_ifB_ne (tgt := 70) (pc := 51) F dX1_errorOfBuffer_51 (by decide) (fun hc_51 => ?_) (fun hc_51 => ?_)
          · refine x_bipush (v := -9) (pc := 70) F dX1_errorOfBuffer_70 (by decide) ?_
            exact x_reti (w := wM) (ty := tM) (pc := 72) F hK hr hlk hQ0 dX1_errorOfBuffer_72 (⟨rfl, by rw [← her, erF_s (by omega), if_pos hc_34, if_pos (Or.inl hc_51)]⟩)
          · refine x_aload_n (pc := 54) F dX1_errorOfBuffer_54 0 rfl rfl ?_
            refine x_iload_n (pc := 55) F dX1_errorOfBuffer_55 1 rfl rfl ?_
            refine x_aload_n (pc := 56) F dX1_errorOfBuffer_56 0 rfl rfl ?_
            refine gM_buffer (pc := 57) F hK hin hm_buffer dX1_errorOfBuffer_57 ?_
            refine x_iload_n (pc := 60) F dX1_errorOfBuffer_60 1 rfl rfl ?_
            refine x_iconst (v := nI 2) (pc := 61) F dX1_errorOfBuffer_61 (by decide) ?_
            refine x_iadd (z := nI ((4 * t) + 2)) (pc := 62) F dX1_errorOfBuffer_62 (nI_add (4 * t) 2) ?_
            refine lM_buffer (v := G 9 ((4 * t) + 2)) (pc := 63) F hK dX1_errorOfBuffer_63 (by omega) rfl ?_
            refine x_calli (w := wM) (ty := tM) (pc := 64) F hK wM_in [.int (nI (4 * t)), .int (nI (G 9 ((4 * t) + 2)))] [] (c_X1_isBusyBefore l G K hs t (inB G t) (G 9 ((4 * t) + 2)) (by omega) ib (by omega) hG hwh) (cwV 2 F.2.2.2.2 gX1_errorOfBuffer_X1_isBusyBefore rfl rfl rfl (by decide +kernel) ⟨Nat.le_of_ble_eq_true rfl, Nat.le_of_ble_eq_true rfl⟩) rfl rfl rfl rfl (Nat.le_of_ble_eq_true rfl) dX1_errorOfBuffer_64 ?_
            rintro _ _ ⟨rfl, rfl⟩
            refine x_ifB_eq (tgt := 73) (pc := 67) F dX1_errorOfBuffer_67 (by decide) (fun hc_67 => ?_) (fun hc_67 => ?_)
            · refine x_aload_n (pc := 73) F dX1_errorOfBuffer_73 0 rfl rfl ?_
              have cut_92 : ∀ (w : Nat), (w = inW G t) → V p l e ({ frames := 1, cells := 0, slots := 0, locals := 25 }) s m args below meth c 2 0 0 Q0 (IC wM D h q cs s (G, K, hs)) 92 [(0, .ref h), (1, .int (nI (4 * t)))] [.int (nI w), .ref h] := by
                intro w hw
                have hw2 : w < 2 := hw ▸ bN_lt _
                refine x_calli (w := wM) (ty := tM) (pc := 92) F hK wM_in [.int (nI w)] [] (c_X1_accepts l G K hs w (by omega) (by omega)) (cwV 1 F.2.2.2.2 gX1_errorOfBuffer_X1_accepts rfl rfl rfl (by decide +kernel) ⟨Nat.le_of_ble_eq_true rfl, Nat.le_of_ble_eq_true rfl⟩) rfl rfl rfl rfl (Nat.le_of_ble_eq_true rfl) dX1_errorOfBuffer_92 ?_
                rintro _ _ ⟨rfl, rfl⟩
                refine x_ifB_ne (tgt := 101) (pc := 95) F dX1_errorOfBuffer_95 (by decide) (fun hc_95 => ?_) (fun hc_95 => ?_)
                · refine x_iinc (v := nI ((4 * t) + 4)) (lv' := [(0, .ref h), (1, .int (nI ((4 * t) + 4)))]) (pc := 101) F dX1_errorOfBuffer_101 1 rfl (nx_inc (b := 4) (4 * t) (by decide)) (by decide) [1, 0] rfl ?_
                  refine x_goto (tgt := 2) (pc := 104) F dX1_errorOfBuffer_104 (by decide) ?_
                  refine x_lv [0, 1] rfl ?_
                  exact ih_2 (t + 1) (by omega) ((erF_next (by omega) hc_34 (not_or.mpr ⟨hc_51, hc_67⟩) (by rw [← hw]; exact hc_95)).trans her) (by omega)
                · refine x_bipush (v := -11) (pc := 98) F dX1_errorOfBuffer_98 (by decide) ?_
                  exact x_reti (w := wM) (ty := tM) (pc := 100) F hK hr hlk hQ0 dX1_errorOfBuffer_100 (⟨rfl, by have hacc : ¬ acc G (inW G t) := (by rw [← hw]; exact hc_95); rw [← her, erF_s (by omega), if_pos hc_34, if_neg (not_or.mpr ⟨hc_51, hc_67⟩), if_neg hacc]⟩)
              refine x_aload_n (pc := 74) F dX1_errorOfBuffer_74 0 rfl rfl ?_
              refine gM_buffer (pc := 75) F hK hin hm_buffer dX1_errorOfBuffer_75 ?_
              refine x_iload_n (pc := 78) F dX1_errorOfBuffer_78 1 rfl rfl ?_
              refine x_iconst (v := nI 1) (pc := 79) F dX1_errorOfBuffer_79 (by decide) ?_
              refine x_iadd (z := nI ((4 * t) + 1)) (pc := 80) F dX1_errorOfBuffer_80 (nI_add (4 * t) 1) ?_
              refine lM_buffer (v := G 9 ((4 * t) + 1)) (pc := 81) F hK dX1_errorOfBuffer_81 (by omega) rfl ?_
              refine x_bipush (v := nI 62) (pc := 82) F dX1_errorOfBuffer_82 (by decide) ?_
              refine x_icmpN_ne (tgt := 91) (pc := 84) F dX1_errorOfBuffer_84 (by decide) (by omega) (by decide) (fun hc_84 => ?_) (fun hc_84 => ?_)
              · refine x_iconst (v := nI 0) (pc := 91) F dX1_errorOfBuffer_91 (by decide) ?_
                refine x_lv [0, 1] rfl ?_
                exact cut_92 0 (bN_f hc_84).symm
              · refine x_iconst (v := nI 1) (pc := 87) F dX1_errorOfBuffer_87 (by decide) ?_
                refine x_goto (tgt := 92) (pc := 88) F dX1_errorOfBuffer_88 (by decide) ?_
                refine x_lv [0, 1] rfl ?_
                exact cut_92 1 (bN_t hc_84).symm
            · refine x_bipush (v := -9) (pc := 70) F dX1_errorOfBuffer_70 (by decide) ?_
              exact x_reti (w := wM) (ty := tM) (pc := 72) F hK hr hlk hQ0 dX1_errorOfBuffer_72 (⟨rfl, by rw [← her, erF_s (by omega), if_pos hc_34, if_pos (Or.inr hc_67)]⟩)
        · refine x_bipush (v := -10) (pc := 37) F dX1_errorOfBuffer_37 (by decide) ?_
          exact x_reti (w := wM) (ty := tM) (pc := 39) F hK hr hlk hQ0 dX1_errorOfBuffer_39 (⟨rfl, by rw [← her, erF_s (by omega), if_neg hc_34]⟩)
  refine x_lv [0, 1] rfl ?_
  exact cut_2 ((G 10 0 + 1 - 4 * 0) + 1) 0 (Nat.zero_le _) rfl (Nat.lt_succ_self _)
set_option maxHeartbeats 4000000 in
set_option maxRecDepth 100000 in
theorem c_X1_load (l : Launch) (G : GS) (K : Nat → Nat) (hs : Int64) (hG : ok G) : MCi wM tM l yX1_load wsX1_load ({ frames := 3, cells := 0, slots := 0, locals := 66 }) [] (G, K, hs) (fun r u => u = (sg_load G, K, hs) ∧ r = sp_load G) := by
  have hG0 := hG
  obtain ⟨b1, b2, b3, b4, b5, b6, b7, b8, b9, b10, b11⟩ := hG0
  have hfl := fe_le G
  refine x_starti (cc := cX1_load) (maxL := 3) (ret := (some .int)) (own := RX1) (by decide) rfl rfl (fun _ => Nat.le_of_ble_eq_true rfl) ?_
  intro p e s m args below meth c D h q cs F hK hr hlk Q0 hQ0
  refine x_lv (lv' := [(0, .ref h)]) [0] rfl ?_
  have hin : ∀ w ∈ wsX10, w ∈ wsX1_load := by decide +kernel
  have hm_length : Cond.fieldLink RX1 72 "GossipScheduleModel" "length" "I" ∈ wsX1_load := by decide +kernel
  have hm_rounds : Cond.fieldLink RX1 43 "GossipScheduleModel" "rounds" "I" ∈ wsX1_load := by decide +kernel
  have hm_calls : Cond.fieldLink RX1 46 "GossipScheduleModel" "calls" "I" ∈ wsX1_load := by decide +kernel
  have hm_buffer : Cond.fieldLink RX1 27 "GossipScheduleModel" "buffer" "[I" ∈ wsX1_load := by decide +kernel
  refine x_aload_n (pc := 0) F dX1_load_0 0 rfl rfl ?_
  refine gM_length (v := G 10 0) (pc := 1) F hK hin hm_length rfl dX1_load_1 ?_
  refine x_iconst (v := nI 4) (pc := 4) F dX1_load_4 (by decide) ?_
  refine x_irem (z := nI ((G 10 0) % 4)) (pc := 5) F dX1_load_5 (by decide) (pk_rem (by omega) (by decide) (by decide)) ?_
  refine x_iconst (v := nI 3) (pc := 6) F dX1_load_6 (by decide) ?_
  refine x_icmpN_ne (tgt := 21) (pc := 7) F dX1_load_7 (by decide) (by omega) (by decide) (fun hc_7 => ?_) (fun hc_7 => ?_)
  · refine x_bipush (v := -4) (pc := 21) F dX1_load_21 (by decide) ?_
    exact x_reti (w := wM) (ty := tM) (pc := 23) F hK hr hlk hQ0 dX1_load_23 (⟨by rw [sg_load, if_neg (by omega)], by rw [sp_load, if_neg (by omega)]⟩)
  · refine x_aload_n (pc := 10) F dX1_load_10 0 rfl rfl ?_
    refine x_calli (w := wM) (ty := tM) (pc := 11) F hK wM_in [] [] (c_X1_rightLength l G K hs hG) (cwV 0 F.2.2.2.2 gX1_load_X1_rightLength rfl rfl rfl (by decide +kernel) ⟨Nat.le_of_ble_eq_true rfl, Nat.le_of_ble_eq_true rfl⟩) rfl rfl rfl rfl (Nat.le_of_ble_eq_true rfl) dX1_load_11 ?_
    rintro _ _ ⟨rfl, rfl⟩
    refine x_aload_n (pc := 14) F dX1_load_14 0 rfl rfl ?_
    refine gM_length (v := G 10 0) (pc := 15) F hK hin hm_length rfl dX1_load_15 ?_
    refine x_icmpN_ge (tgt := 24) (pc := 18) F dX1_load_18 (by decide) (by omega) (by omega) (fun hc_18 => ?_) (fun hc_18 => ?_)
    · have hwh : whole G := ⟨by omega, by omega⟩
      refine x_aload_n (pc := 24) F dX1_load_24 0 rfl rfl ?_
      refine x_calli (w := wM) (ty := tM) (pc := 25) F hK wM_in [] [] (c_X1_errorOfBuffer l G K hs hG hwh) (cwV 0 F.2.2.2.2 gX1_load_X1_errorOfBuffer rfl rfl rfl (by decide +kernel) ⟨Nat.le_of_ble_eq_true rfl, Nat.le_of_ble_eq_true rfl⟩) rfl rfl rfl rfl (Nat.le_of_ble_eq_true rfl) dX1_load_25 ?_
      rintro _ _ ⟨rfl, rfl⟩
      refine x_istore_n (lv' := [(0, .ref h), (1, .int (er G))]) (pc := 28) F dX1_load_28 rfl (by decide) [1, 0] rfl ?_
      refine x_iload_n (pc := 29) F dX1_load_29 1 rfl rfl ?_
      refine x_ifT_ge (a := (er G).toInt) (tgt := 35) (pc := 30) F dX1_load_30 (by decide) rfl (fun hc_30 => ?_) (fun hc_30 => ?_)
      · refine x_aload_n (pc := 35) F dX1_load_35 0 rfl rfl ?_
        refine x_iconst (v := nI 1) (pc := 36) F dX1_load_36 (by decide) ?_
        refine pM_rounds (pc := 37) F hK hin hm_rounds dX1_load_37 ?_
        refine x_aload_n (pc := 40) F dX1_load_40 0 rfl rfl ?_
        refine x_iconst (v := nI 0) (pc := 41) F dX1_load_41 (by decide) ?_
        refine pM_calls (pc := 42) F hK hin hm_calls dX1_load_42 ?_
        refine x_iconst (v := nI 0) (pc := 45) F dX1_load_45 (by decide) ?_
        refine x_istore_n (lv' := [(0, .ref h), (1, .int (er G)), (2, .int (nI 0))]) (pc := 46) F dX1_load_46 rfl (by decide) [1, 2, 0] rfl ?_
        refine x_I (congrArg (fun g => IC wM D h q cs s (g, K, hs)) (show up (up G 3 0 1) 4 0 0 = ldM G 0 from rfl)) ?_
        have cut_47 : ∀ (fu : Nat) (t : Nat), (4 * t ≤ G 10 0 + 1) → (G 10 0 + 1 - 4 * t) < fu → V p l e ({ frames := 3, cells := 0, slots := 0, locals := 66 }) s m args below meth c 3 0 0 Q0 (IC wM D h q cs s (ldM G t, K, hs)) 47 [(0, .ref h), (2, .int (nI (4 * t)))] [] := by
          intro fu
          induction fu with
          | zero => intro t ht hfu; exact absurd hfu (Nat.not_lt_zero _)
          | succ fu ih_47 =>
            intro t ht hfu
            refine x_iload_n (pc := 47) F dX1_load_47 1 rfl rfl ?_
            refine x_aload_n (pc := 48) F dX1_load_48 0 rfl rfl ?_
            refine gM_length (v := G 10 0) (pc := 49) F hK hin hm_length (ldM_o G 0 (by decide) t) dX1_load_49 ?_
            refine x_icmpN_ge (tgt := 134) (pc := 52) F dX1_load_52 (by decide) (by omega) (by omega) (fun hc_52 => ?_) (fun hc_52 => ?_)
            · refine x_aload_n (pc := 134) F dX1_load_134 0 rfl rfl ?_
              refine x_iconst (v := nI 0) (pc := 135) F dX1_load_135 (by decide) ?_
              refine pM_length (pc := 136) F hK hin hm_length dX1_load_136 ?_
              refine x_aload_n (pc := 139) F dX1_load_139 0 rfl rfl ?_
              refine gM_calls (v := t) (pc := 140) F hK hin hm_calls (ldM_4 G t) dX1_load_140 ?_
              exact x_reti (w := wM) (ty := tM) (pc := 143) F hK hr hlk hQ0 dX1_load_143 (⟨by rw [sg_load, if_pos hwh, if_pos (er_z hc_30), ldF, show (G 10 0 + 1) / 4 = t by omega, ldM_p (by omega)], by rw [sp_load, if_pos hwh, if_pos (er_z hc_30), show (G 10 0 + 1) / 4 = t by omega]⟩)
            · obtain ⟨i1, i2, i3, i4, i5⟩ := in_ok hG hwh (t := t) (by omega)
              have hl3 := ldM_3 G t
              have hv1 := b10 (4 * t - 1) (by omega)
              refine x_aload_n (pc := 55) F dX1_load_55 0 rfl rfl ?_
              refine x_dup (pc := 56) F dX1_load_56 rfl ?_
              refine gM_rounds (v := (ldM G t) 3 0) (pc := 57) F hK hin hm_rounds rfl dX1_load_57 ?_
              refine x_iload_n (pc := 60) F dX1_load_60 1 rfl rfl ?_
              refine x_ifN_le (tgt := 81) (pc := 61) F dX1_load_61 (by decide) (by omega) (fun hc_61 => ?_) (fun hc_61 => ?_)
              · refine x_iconst (v := nI 0) (pc := 81) F dX1_load_81 (by decide) ?_
                refine x_iadd (z := nI (((ldM G t) 3 0) + 0)) (pc := 82) F dX1_load_82 (nI_add ((ldM G t) 3 0) 0) ?_
                refine pM_rounds (pc := 83) F hK hin hm_rounds dX1_load_83 ?_
                refine x_aload_n (pc := 86) F dX1_load_86 0 rfl rfl ?_
                refine x_aload_n (pc := 87) F dX1_load_87 0 rfl rfl ?_
                refine gM_buffer (pc := 88) F hK hin hm_buffer dX1_load_88 ?_
                refine x_iload_n (pc := 91) F dX1_load_91 1 rfl rfl ?_
                refine lM_buffer (v := G 9 (4 * t)) (pc := 92) F hK dX1_load_92 (by omega) (ldM_o G _ (by decide) t) ?_
                refine x_bipush (v := nI 48) (pc := 93) F dX1_load_93 (by decide) ?_
                refine x_isub (z := nI ((G 9 (4 * t)) - 48)) (pc := 95) F dX1_load_95 (pk_sub (by omega)) ?_
                refine x_aload_n (pc := 96) F dX1_load_96 0 rfl rfl ?_
                refine gM_buffer (pc := 97) F hK hin hm_buffer dX1_load_97 ?_
                refine x_iload_n (pc := 100) F dX1_load_100 1 rfl rfl ?_
                refine x_iconst (v := nI 2) (pc := 101) F dX1_load_101 (by decide) ?_
                refine x_iadd (z := nI ((4 * t) + 2)) (pc := 102) F dX1_load_102 (nI_add (4 * t) 2) ?_
                refine lM_buffer (v := G 9 (4 * t + 2)) (pc := 103) F hK dX1_load_103 (by omega) (ldM_o G _ (by decide) t) ?_
                refine x_bipush (v := nI 48) (pc := 104) F dX1_load_104 (by decide) ?_
                refine x_isub (z := nI ((G 9 (4 * t + 2)) - 48)) (pc := 106) F dX1_load_106 (pk_sub (by omega)) ?_
                refine x_aload_n (pc := 107) F dX1_load_107 0 rfl rfl ?_
                refine gM_buffer (pc := 108) F hK hin hm_buffer dX1_load_108 ?_
                refine x_iload_n (pc := 111) F dX1_load_111 1 rfl rfl ?_
                refine x_iconst (v := nI 1) (pc := 112) F dX1_load_112 (by decide) ?_
                refine x_iadd (z := nI ((4 * t) + 1)) (pc := 113) F dX1_load_113 (nI_add (4 * t) 1) ?_
                refine lM_buffer (v := G 9 (4 * t + 1)) (pc := 114) F hK dX1_load_114 (by omega) (ldM_o G _ (by decide) t) ?_
                refine x_bipush (v := nI 62) (pc := 115) F dX1_load_115 (by decide) ?_
                refine x_icmpN_ne (tgt := 124) (pc := 117) F dX1_load_117 (by decide) (by omega) (by decide) (fun hc_117 => ?_) (fun hc_117 => ?_)
                · refine x_iconst (v := nI 0) (pc := 124) F dX1_load_124 (by decide) ?_
                  refine x_callv (w := wM) (ty := tM) (pc := 125) F hK wM_in [.int (nI ((G 9 (4 * t)) - 48)), .int (nI ((G 9 (4 * t + 2)) - 48)), .int (nI 0)] [] (c_X1_lay l (up (ldM G t) 3 0 (((ldM G t) 3 0) + 0)) K hs ((G 9 (4 * t)) - 48) ((G 9 (4 * t + 2)) - 48) 0 (by omega) (by have hq_4 : (up (ldM G t) 3 0 (((ldM G t) 3 0) + 0)) 4 0 = t := (ldM_4 G t); omega) (by have hq_3 : (up (ldM G t) 3 0 (((ldM G t) 3 0) + 0)) 3 0 = ((ldM G t) 3 0) + 0 := rfl; omega)) (cwV 3 F.2.2.2.2 gX1_load_X1_lay rfl rfl rfl (by decide +kernel) ⟨Nat.le_of_ble_eq_true rfl, Nat.le_of_ble_eq_true rfl⟩) rfl rfl rfl rfl (Nat.le_of_ble_eq_true rfl) dX1_load_125 ?_
                  rintro _ rfl
                  refine x_iinc (v := nI ((4 * t) + 4)) (lv' := [(0, .ref h), (2, .int (nI ((4 * t) + 4)))]) (pc := 128) F dX1_load_128 1 rfl (nx_inc (b := 4) (4 * t) (by decide)) (by decide) [1, 0] rfl ?_
                  refine x_goto (tgt := 47) (pc := 131) F dX1_load_131 (by decide) ?_
                  refine x_I (congrArg (fun g => IC wM D h q cs s (g, K, hs)) (show putG (up (ldM G t) 3 0 (((ldM G t) 3 0) + 0)) ((G 9 (4 * t)) - 48) ((G 9 (4 * t + 2)) - 48) 0 = ldM G (t + 1) from (by have e1 := ldM_0 (G := G) (by omega); rw [inW, bN_f hc_117] at e1; exact e1))) ?_
                  refine x_lv [0, 1] rfl ?_
                  exact ih_47 (t + 1) (by omega) (by omega)
                · refine x_iconst (v := nI 1) (pc := 120) F dX1_load_120 (by decide) ?_
                  refine x_goto (tgt := 125) (pc := 121) F dX1_load_121 (by decide) ?_
                  refine x_callv (w := wM) (ty := tM) (pc := 125) F hK wM_in [.int (nI ((G 9 (4 * t)) - 48)), .int (nI ((G 9 (4 * t + 2)) - 48)), .int (nI 1)] [] (c_X1_lay l (up (ldM G t) 3 0 (((ldM G t) 3 0) + 0)) K hs ((G 9 (4 * t)) - 48) ((G 9 (4 * t + 2)) - 48) 1 (by omega) (by have hq_4 : (up (ldM G t) 3 0 (((ldM G t) 3 0) + 0)) 4 0 = t := (ldM_4 G t); omega) (by have hq_3 : (up (ldM G t) 3 0 (((ldM G t) 3 0) + 0)) 3 0 = ((ldM G t) 3 0) + 0 := rfl; omega)) (cwV 3 F.2.2.2.2 gX1_load_X1_lay rfl rfl rfl (by decide +kernel) ⟨Nat.le_of_ble_eq_true rfl, Nat.le_of_ble_eq_true rfl⟩) rfl rfl rfl rfl (Nat.le_of_ble_eq_true rfl) dX1_load_125 ?_
                  rintro _ rfl
                  refine x_iinc (v := nI ((4 * t) + 4)) (lv' := [(0, .ref h), (2, .int (nI ((4 * t) + 4)))]) (pc := 128) F dX1_load_128 1 rfl (nx_inc (b := 4) (4 * t) (by decide)) (by decide) [1, 0] rfl ?_
                  refine x_goto (tgt := 47) (pc := 131) F dX1_load_131 (by decide) ?_
                  refine x_I (congrArg (fun g => IC wM D h q cs s (g, K, hs)) (show putG (up (ldM G t) 3 0 (((ldM G t) 3 0) + 0)) ((G 9 (4 * t)) - 48) ((G 9 (4 * t + 2)) - 48) 1 = ldM G (t + 1) from (by have e1 := ldM_0 (G := G) (by omega); rw [inW, bN_t hc_117] at e1; exact e1))) ?_
                  refine x_lv [0, 1] rfl ?_
                  exact ih_47 (t + 1) (by omega) (by omega)
              · refine x_aload_n (pc := 64) F dX1_load_64 0 rfl rfl ?_
                refine gM_buffer (pc := 65) F hK hin hm_buffer dX1_load_65 ?_
                refine x_iload_n (pc := 68) F dX1_load_68 1 rfl rfl ?_
                refine x_iconst (v := nI 1) (pc := 69) F dX1_load_69 (by decide) ?_
                refine x_isub (z := nI ((4 * t) - 1)) (pc := 70) F dX1_load_70 (pk_sub (by omega)) ?_
                refine lM_buffer (v := G 9 (4 * t - 1)) (pc := 71) F hK dX1_load_71 (by omega) (ldM_o G _ (by decide) t) ?_
                refine x_bipush (v := nI 59) (pc := 72) F dX1_load_72 (by decide) ?_
                refine x_icmpN_ne (tgt := 81) (pc := 74) F dX1_load_74 (by decide) (by omega) (by decide) (fun hc_74 => ?_) (fun hc_74 => ?_)
                · refine x_iconst (v := nI 0) (pc := 81) F dX1_load_81 (by decide) ?_
                  refine x_iadd (z := nI (((ldM G t) 3 0) + 0)) (pc := 82) F dX1_load_82 (nI_add ((ldM G t) 3 0) 0) ?_
                  refine pM_rounds (pc := 83) F hK hin hm_rounds dX1_load_83 ?_
                  refine x_aload_n (pc := 86) F dX1_load_86 0 rfl rfl ?_
                  refine x_aload_n (pc := 87) F dX1_load_87 0 rfl rfl ?_
                  refine gM_buffer (pc := 88) F hK hin hm_buffer dX1_load_88 ?_
                  refine x_iload_n (pc := 91) F dX1_load_91 1 rfl rfl ?_
                  refine lM_buffer (v := G 9 (4 * t)) (pc := 92) F hK dX1_load_92 (by omega) (ldM_o G _ (by decide) t) ?_
                  refine x_bipush (v := nI 48) (pc := 93) F dX1_load_93 (by decide) ?_
                  refine x_isub (z := nI ((G 9 (4 * t)) - 48)) (pc := 95) F dX1_load_95 (pk_sub (by omega)) ?_
                  refine x_aload_n (pc := 96) F dX1_load_96 0 rfl rfl ?_
                  refine gM_buffer (pc := 97) F hK hin hm_buffer dX1_load_97 ?_
                  refine x_iload_n (pc := 100) F dX1_load_100 1 rfl rfl ?_
                  refine x_iconst (v := nI 2) (pc := 101) F dX1_load_101 (by decide) ?_
                  refine x_iadd (z := nI ((4 * t) + 2)) (pc := 102) F dX1_load_102 (nI_add (4 * t) 2) ?_
                  refine lM_buffer (v := G 9 (4 * t + 2)) (pc := 103) F hK dX1_load_103 (by omega) (ldM_o G _ (by decide) t) ?_
                  refine x_bipush (v := nI 48) (pc := 104) F dX1_load_104 (by decide) ?_
                  refine x_isub (z := nI ((G 9 (4 * t + 2)) - 48)) (pc := 106) F dX1_load_106 (pk_sub (by omega)) ?_
                  refine x_aload_n (pc := 107) F dX1_load_107 0 rfl rfl ?_
                  refine gM_buffer (pc := 108) F hK hin hm_buffer dX1_load_108 ?_
                  refine x_iload_n (pc := 111) F dX1_load_111 1 rfl rfl ?_
                  refine x_iconst (v := nI 1) (pc := 112) F dX1_load_112 (by decide) ?_
                  refine x_iadd (z := nI ((4 * t) + 1)) (pc := 113) F dX1_load_113 (nI_add (4 * t) 1) ?_
                  refine lM_buffer (v := G 9 (4 * t + 1)) (pc := 114) F hK dX1_load_114 (by omega) (ldM_o G _ (by decide) t) ?_
                  refine x_bipush (v := nI 62) (pc := 115) F dX1_load_115 (by decide) ?_
                  refine x_icmpN_ne (tgt := 124) (pc := 117) F dX1_load_117 (by decide) (by omega) (by decide) (fun hc_117 => ?_) (fun hc_117 => ?_)
                  · refine x_iconst (v := nI 0) (pc := 124) F dX1_load_124 (by decide) ?_
                    refine x_callv (w := wM) (ty := tM) (pc := 125) F hK wM_in [.int (nI ((G 9 (4 * t)) - 48)), .int (nI ((G 9 (4 * t + 2)) - 48)), .int (nI 0)] [] (c_X1_lay l (up (ldM G t) 3 0 (((ldM G t) 3 0) + 0)) K hs ((G 9 (4 * t)) - 48) ((G 9 (4 * t + 2)) - 48) 0 (by omega) (by have hq_4 : (up (ldM G t) 3 0 (((ldM G t) 3 0) + 0)) 4 0 = t := (ldM_4 G t); omega) (by have hq_3 : (up (ldM G t) 3 0 (((ldM G t) 3 0) + 0)) 3 0 = ((ldM G t) 3 0) + 0 := rfl; omega)) (cwV 3 F.2.2.2.2 gX1_load_X1_lay rfl rfl rfl (by decide +kernel) ⟨Nat.le_of_ble_eq_true rfl, Nat.le_of_ble_eq_true rfl⟩) rfl rfl rfl rfl (Nat.le_of_ble_eq_true rfl) dX1_load_125 ?_
                    rintro _ rfl
                    refine x_iinc (v := nI ((4 * t) + 4)) (lv' := [(0, .ref h), (2, .int (nI ((4 * t) + 4)))]) (pc := 128) F dX1_load_128 1 rfl (nx_inc (b := 4) (4 * t) (by decide)) (by decide) [1, 0] rfl ?_
                    refine x_goto (tgt := 47) (pc := 131) F dX1_load_131 (by decide) ?_
                    refine x_I (congrArg (fun g => IC wM D h q cs s (g, K, hs)) (show putG (up (ldM G t) 3 0 (((ldM G t) 3 0) + 0)) ((G 9 (4 * t)) - 48) ((G 9 (4 * t + 2)) - 48) 0 = ldM G (t + 1) from (by have e1 := ldM_2 (by omega) hc_74; rw [inW, bN_f hc_117] at e1; exact e1))) ?_
                    refine x_lv [0, 1] rfl ?_
                    exact ih_47 (t + 1) (by omega) (by omega)
                  · refine x_iconst (v := nI 1) (pc := 120) F dX1_load_120 (by decide) ?_
                    refine x_goto (tgt := 125) (pc := 121) F dX1_load_121 (by decide) ?_
                    refine x_callv (w := wM) (ty := tM) (pc := 125) F hK wM_in [.int (nI ((G 9 (4 * t)) - 48)), .int (nI ((G 9 (4 * t + 2)) - 48)), .int (nI 1)] [] (c_X1_lay l (up (ldM G t) 3 0 (((ldM G t) 3 0) + 0)) K hs ((G 9 (4 * t)) - 48) ((G 9 (4 * t + 2)) - 48) 1 (by omega) (by have hq_4 : (up (ldM G t) 3 0 (((ldM G t) 3 0) + 0)) 4 0 = t := (ldM_4 G t); omega) (by have hq_3 : (up (ldM G t) 3 0 (((ldM G t) 3 0) + 0)) 3 0 = ((ldM G t) 3 0) + 0 := rfl; omega)) (cwV 3 F.2.2.2.2 gX1_load_X1_lay rfl rfl rfl (by decide +kernel) ⟨Nat.le_of_ble_eq_true rfl, Nat.le_of_ble_eq_true rfl⟩) rfl rfl rfl rfl (Nat.le_of_ble_eq_true rfl) dX1_load_125 ?_
                    rintro _ rfl
                    refine x_iinc (v := nI ((4 * t) + 4)) (lv' := [(0, .ref h), (2, .int (nI ((4 * t) + 4)))]) (pc := 128) F dX1_load_128 1 rfl (nx_inc (b := 4) (4 * t) (by decide)) (by decide) [1, 0] rfl ?_
                    refine x_goto (tgt := 47) (pc := 131) F dX1_load_131 (by decide) ?_
                    refine x_I (congrArg (fun g => IC wM D h q cs s (g, K, hs)) (show putG (up (ldM G t) 3 0 (((ldM G t) 3 0) + 0)) ((G 9 (4 * t)) - 48) ((G 9 (4 * t + 2)) - 48) 1 = ldM G (t + 1) from (by have e1 := ldM_2 (by omega) hc_74; rw [inW, bN_t hc_117] at e1; exact e1))) ?_
                    refine x_lv [0, 1] rfl ?_
                    exact ih_47 (t + 1) (by omega) (by omega)
                · refine x_iconst (v := nI 1) (pc := 77) F dX1_load_77 (by decide) ?_
                  refine x_goto (tgt := 82) (pc := 78) F dX1_load_78 (by decide) ?_
                  refine x_iadd (z := nI (((ldM G t) 3 0) + 1)) (pc := 82) F dX1_load_82 (nI_add ((ldM G t) 3 0) 1) ?_
                  refine pM_rounds (pc := 83) F hK hin hm_rounds dX1_load_83 ?_
                  refine x_aload_n (pc := 86) F dX1_load_86 0 rfl rfl ?_
                  refine x_aload_n (pc := 87) F dX1_load_87 0 rfl rfl ?_
                  refine gM_buffer (pc := 88) F hK hin hm_buffer dX1_load_88 ?_
                  refine x_iload_n (pc := 91) F dX1_load_91 1 rfl rfl ?_
                  refine lM_buffer (v := G 9 (4 * t)) (pc := 92) F hK dX1_load_92 (by omega) (ldM_o G _ (by decide) t) ?_
                  refine x_bipush (v := nI 48) (pc := 93) F dX1_load_93 (by decide) ?_
                  refine x_isub (z := nI ((G 9 (4 * t)) - 48)) (pc := 95) F dX1_load_95 (pk_sub (by omega)) ?_
                  refine x_aload_n (pc := 96) F dX1_load_96 0 rfl rfl ?_
                  refine gM_buffer (pc := 97) F hK hin hm_buffer dX1_load_97 ?_
                  refine x_iload_n (pc := 100) F dX1_load_100 1 rfl rfl ?_
                  refine x_iconst (v := nI 2) (pc := 101) F dX1_load_101 (by decide) ?_
                  refine x_iadd (z := nI ((4 * t) + 2)) (pc := 102) F dX1_load_102 (nI_add (4 * t) 2) ?_
                  refine lM_buffer (v := G 9 (4 * t + 2)) (pc := 103) F hK dX1_load_103 (by omega) (ldM_o G _ (by decide) t) ?_
                  refine x_bipush (v := nI 48) (pc := 104) F dX1_load_104 (by decide) ?_
                  refine x_isub (z := nI ((G 9 (4 * t + 2)) - 48)) (pc := 106) F dX1_load_106 (pk_sub (by omega)) ?_
                  refine x_aload_n (pc := 107) F dX1_load_107 0 rfl rfl ?_
                  refine gM_buffer (pc := 108) F hK hin hm_buffer dX1_load_108 ?_
                  refine x_iload_n (pc := 111) F dX1_load_111 1 rfl rfl ?_
                  refine x_iconst (v := nI 1) (pc := 112) F dX1_load_112 (by decide) ?_
                  refine x_iadd (z := nI ((4 * t) + 1)) (pc := 113) F dX1_load_113 (nI_add (4 * t) 1) ?_
                  refine lM_buffer (v := G 9 (4 * t + 1)) (pc := 114) F hK dX1_load_114 (by omega) (ldM_o G _ (by decide) t) ?_
                  refine x_bipush (v := nI 62) (pc := 115) F dX1_load_115 (by decide) ?_
                  refine x_icmpN_ne (tgt := 124) (pc := 117) F dX1_load_117 (by decide) (by omega) (by decide) (fun hc_117 => ?_) (fun hc_117 => ?_)
                  · refine x_iconst (v := nI 0) (pc := 124) F dX1_load_124 (by decide) ?_
                    refine x_callv (w := wM) (ty := tM) (pc := 125) F hK wM_in [.int (nI ((G 9 (4 * t)) - 48)), .int (nI ((G 9 (4 * t + 2)) - 48)), .int (nI 0)] [] (c_X1_lay l (up (ldM G t) 3 0 (((ldM G t) 3 0) + 1)) K hs ((G 9 (4 * t)) - 48) ((G 9 (4 * t + 2)) - 48) 0 (by omega) (by have hq_4 : (up (ldM G t) 3 0 (((ldM G t) 3 0) + 1)) 4 0 = t := (ldM_4 G t); omega) (by have hq_3 : (up (ldM G t) 3 0 (((ldM G t) 3 0) + 1)) 3 0 = ((ldM G t) 3 0) + 1 := rfl; omega)) (cwV 3 F.2.2.2.2 gX1_load_X1_lay rfl rfl rfl (by decide +kernel) ⟨Nat.le_of_ble_eq_true rfl, Nat.le_of_ble_eq_true rfl⟩) rfl rfl rfl rfl (Nat.le_of_ble_eq_true rfl) dX1_load_125 ?_
                    rintro _ rfl
                    refine x_iinc (v := nI ((4 * t) + 4)) (lv' := [(0, .ref h), (2, .int (nI ((4 * t) + 4)))]) (pc := 128) F dX1_load_128 1 rfl (nx_inc (b := 4) (4 * t) (by decide)) (by decide) [1, 0] rfl ?_
                    refine x_goto (tgt := 47) (pc := 131) F dX1_load_131 (by decide) ?_
                    refine x_I (congrArg (fun g => IC wM D h q cs s (g, K, hs)) (show putG (up (ldM G t) 3 0 (((ldM G t) 3 0) + 1)) ((G 9 (4 * t)) - 48) ((G 9 (4 * t + 2)) - 48) 0 = ldM G (t + 1) from (by have e1 := ldM_1 (by omega) hc_74; rw [inW, bN_f hc_117] at e1; exact e1))) ?_
                    refine x_lv [0, 1] rfl ?_
                    exact ih_47 (t + 1) (by omega) (by omega)
                  · refine x_iconst (v := nI 1) (pc := 120) F dX1_load_120 (by decide) ?_
                    refine x_goto (tgt := 125) (pc := 121) F dX1_load_121 (by decide) ?_
                    refine x_callv (w := wM) (ty := tM) (pc := 125) F hK wM_in [.int (nI ((G 9 (4 * t)) - 48)), .int (nI ((G 9 (4 * t + 2)) - 48)), .int (nI 1)] [] (c_X1_lay l (up (ldM G t) 3 0 (((ldM G t) 3 0) + 1)) K hs ((G 9 (4 * t)) - 48) ((G 9 (4 * t + 2)) - 48) 1 (by omega) (by have hq_4 : (up (ldM G t) 3 0 (((ldM G t) 3 0) + 1)) 4 0 = t := (ldM_4 G t); omega) (by have hq_3 : (up (ldM G t) 3 0 (((ldM G t) 3 0) + 1)) 3 0 = ((ldM G t) 3 0) + 1 := rfl; omega)) (cwV 3 F.2.2.2.2 gX1_load_X1_lay rfl rfl rfl (by decide +kernel) ⟨Nat.le_of_ble_eq_true rfl, Nat.le_of_ble_eq_true rfl⟩) rfl rfl rfl rfl (Nat.le_of_ble_eq_true rfl) dX1_load_125 ?_
                    rintro _ rfl
                    refine x_iinc (v := nI ((4 * t) + 4)) (lv' := [(0, .ref h), (2, .int (nI ((4 * t) + 4)))]) (pc := 128) F dX1_load_128 1 rfl (nx_inc (b := 4) (4 * t) (by decide)) (by decide) [1, 0] rfl ?_
                    refine x_goto (tgt := 47) (pc := 131) F dX1_load_131 (by decide) ?_
                    refine x_I (congrArg (fun g => IC wM D h q cs s (g, K, hs)) (show putG (up (ldM G t) 3 0 (((ldM G t) 3 0) + 1)) ((G 9 (4 * t)) - 48) ((G 9 (4 * t + 2)) - 48) 1 = ldM G (t + 1) from (by have e1 := ldM_1 (by omega) hc_74; rw [inW, bN_t hc_117] at e1; exact e1))) ?_
                    refine x_lv [0, 1] rfl ?_
                    exact ih_47 (t + 1) (by omega) (by omega)
        refine x_lv [0, 2] rfl ?_
        exact cut_47 ((G 10 0 + 1 - 4 * 0) + 1) 0 (Nat.zero_le _) (Nat.lt_succ_self _)
      · refine x_iload_n (pc := 33) F dX1_load_33 1 rfl rfl ?_
        exact x_reti (w := wM) (ty := tM) (pc := 34) F hK hr hlk hQ0 dX1_load_34 (⟨by rw [sg_load, if_pos hwh, if_neg (er_n hc_30)], by rw [sp_load, if_pos hwh, if_neg (er_n hc_30)]⟩)
    · refine x_bipush (v := -4) (pc := 21) F dX1_load_21 (by decide) ?_
      exact x_reti (w := wM) (ty := tM) (pc := 23) F hK hr hlk hQ0 dX1_load_23 (⟨by rw [sg_load, if_neg (fun q => by have := q.2; omega)], by rw [sp_load, if_neg (fun q => by have := q.2; omega)]⟩)
set_option maxHeartbeats 4000000 in
set_option maxRecDepth 100000 in
theorem c_X1_clear (l : Launch) (G : GS) (K : Nat → Nat) (hs : Int64) : MCv wM tM l yX1_clear wsX1_clear ({ frames := 0, cells := 0, slots := 0, locals := 0 }) [] (G, K, hs) (fun u => u = (dropG G, K, hs)) := by
  refine x_startv (cc := cX1_clear) (maxL := 1) (ret := none) (own := RX1) (by decide) rfl rfl (fun _ => Nat.le_of_ble_eq_true rfl) ?_
  intro p e s m args below meth c D h q cs F hK hr hlk Q0 hQ0
  refine x_lv (lv' := [(0, .ref h)]) [0] rfl ?_
  have hin : ∀ w ∈ wsX10, w ∈ wsX1_clear := by decide +kernel
  have hm_rounds : Cond.fieldLink RX1 43 "GossipScheduleModel" "rounds" "I" ∈ wsX1_clear := by decide +kernel
  have hm_calls : Cond.fieldLink RX1 46 "GossipScheduleModel" "calls" "I" ∈ wsX1_clear := by decide +kernel
  refine x_aload_n (pc := 0) F dX1_clear_0 0 rfl rfl ?_
  refine x_iconst (v := nI 0) (pc := 1) F dX1_clear_1 (by decide) ?_
  refine pM_rounds (pc := 2) F hK hin hm_rounds dX1_clear_2 ?_
  refine x_aload_n (pc := 5) F dX1_clear_5 0 rfl rfl ?_
  refine x_iconst (v := nI 0) (pc := 6) F dX1_clear_6 (by decide) ?_
  refine pM_calls (pc := 7) F hK hin hm_calls dX1_clear_7 ?_
  exact x_retv (w := wM) (ty := tM) (pc := 10) F hK hr hlk hQ0 dX1_clear_10 (rfl)
set_option maxHeartbeats 4000000 in
set_option maxRecDepth 100000 in
theorem c_X1_round (l : Launch) (G : GS) (K : Nat → Nat) (hs : Int64) (a b w : Nat) (hw : w < 2) (hc : G 4 0 < 28) : MCv wM tM l yX1_round wsX1_round ({ frames := 1, cells := 0, slots := 0, locals := 23 }) [.int (nI a), .int (nI b), .int (nI w)] (G, K, hs) (fun u => u = (putG (up G 3 0 (G 3 0 + 1)) a b w, K, hs)) := by
  refine x_startv (cc := cX1_round) (maxL := 4) (ret := none) (own := RX1) (by decide) rfl rfl (fun _ => Nat.le_of_ble_eq_true rfl) ?_
  intro p e s m args below meth c D h q cs F hK hr hlk Q0 hQ0
  refine x_lv (lv' := [(0, .ref h), (1, .int (nI a)), (2, .int (nI b)), (3, .int (nI w))]) [0, 1, 2, 3] rfl ?_
  have hin : ∀ w ∈ wsX10, w ∈ wsX1_round := by decide +kernel
  have hm_rounds : Cond.fieldLink RX1 43 "GossipScheduleModel" "rounds" "I" ∈ wsX1_round := by decide +kernel
  refine x_aload_n (pc := 0) F dX1_round_0 0 rfl rfl ?_
  refine x_dup (pc := 1) F dX1_round_1 rfl ?_
  refine gM_rounds (v := G 3 0) (pc := 2) F hK hin hm_rounds rfl dX1_round_2 ?_
  refine x_iconst (v := nI 1) (pc := 5) F dX1_round_5 (by decide) ?_
  refine x_iadd (z := nI (G 3 0 + 1)) (pc := 6) F dX1_round_6 (nI_add (G 3 0) 1) ?_
  refine pM_rounds (pc := 7) F hK hin hm_rounds dX1_round_7 ?_
  refine x_aload_n (pc := 10) F dX1_round_10 0 rfl rfl ?_
  refine x_iload_n (pc := 11) F dX1_round_11 1 rfl rfl ?_
  refine x_iload_n (pc := 12) F dX1_round_12 2 rfl rfl ?_
  refine x_iload_n (pc := 13) F dX1_round_13 3 rfl rfl ?_
  refine x_callv (w := wM) (ty := tM) (pc := 14) F hK wM_in [.int (nI a), .int (nI b), .int (nI w)] [] (c_X1_lay l (up G 3 0 (G 3 0 + 1)) K hs a b w (by omega) (by have hq_4 : (up G 3 0 (G 3 0 + 1)) 4 0 = G 4 0 := rfl; omega) (by have hq_3 : (up G 3 0 (G 3 0 + 1)) 3 0 = G 3 0 + 1 := rfl; omega)) (cwV 3 F.2.2.2.2 gX1_round_X1_lay rfl rfl rfl (by decide +kernel) ⟨Nat.le_of_ble_eq_true rfl, Nat.le_of_ble_eq_true rfl⟩) rfl rfl rfl rfl (Nat.le_of_ble_eq_true rfl) dX1_round_14 ?_
  rintro _ rfl
  exact x_retv (w := wM) (ty := tM) (pc := 17) F hK hr hlk hQ0 dX1_round_17 (rfl)
