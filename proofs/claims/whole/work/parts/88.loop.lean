/-! ===== part 88: the law's loop ===== -/
theorem and31 (x : Int32) : ∃ k, k < 32 ∧ x &&& nI 31 = nI k := by
  refine ⟨x.toBitVec.toNat % 32, Nat.mod_lt _ (by decide), ?_⟩
  apply Int32.toBitVec_inj.mp
  apply BitVec.eq_of_toNat_eq
  rw [Int32.toBitVec_and, BitVec.toNat_and]
  show x.toBitVec.toNat &&& (2 ^ 5 - 1) = (x.toBitVec.toNat % 32) % 2 ^ 32
  rw [Nat.and_two_pow_sub_one_eq_mod, Nat.mod_eq_of_lt (Nat.lt_trans (Nat.mod_lt _ (by decide)) (by decide : 32 < 2 ^ 32))]
theorem sm_lt : ∀ L, L < 4 → ∀ i, i < 8 → nI L - nI 4 < nI i := by decide +kernel
theorem sub4 {L : Nat} (h : 4 ≤ L) (hL : L ≤ 2048) : nI L - nI 4 = nI (L - 4) := by
  obtain ⟨d, rfl⟩ := Nat.exists_eq_add_of_le' h
  rw [Nat.add_sub_cancel, ← nI_add, Int32.add_sub_cancel]
set_option maxHeartbeats 4000000 in
set_option maxRecDepth 100000 in
theorem lw_loop {p : Program} {e : Env} {s : State} {m : MethodId} {below : List Frame} {meth : Method} {c : Code} (l : Launch) {D : va_G} {b L : Nat} {xs : Nat → Int32} {hX : Nat} {qX : Nat → Nat} {cX : Nat → ClassId} {hM : Nat} {qM : Nat → Nat} {cM : Nat → ClassId} (C0 : LC p m c s #[Value.ref b] D b L xs hX qX cX hM qM cM) (hr : meth.sig.returnType = ret) (hlk : meth.locks = false) : ∀ (fu i : Nat) (G : GS) (Lx K : Nat → Nat) (hs : Int64), ok G → i ≤ L + 4 → L + 4 - i < fu → LV p l e s m #[Value.ref b] below meth c (lw_Z below #[Value.ref b] s) D b hX qX cX hM qM cM i (G, Lx) (G, K, hs) 18 [] := by
  intro fu
  induction fu with
  | zero => intro i G Lx K hs hG hi hf; exact absurd hf (Nat.not_lt_zero _)
  | succ fu ih =>
    intro i G Lx K hs hG hi hf
    obtain ⟨F, hKX, hKM, aX1, aM1, hXs, hbl, hL⟩ := id C0
    have fin : LV p l e s m #[Value.ref b] below meth c (lw_Z below #[Value.ref b] s) D b hX qX cX hM qM cM i (G, Lx) (G, K, hs) 690 [] := by
      unfold LV
      refine x_iconst (v := 1) (pc := 690) F dL_law_690 (by decide) ?_
      intro H locs ls hI hl
      refine va_forget (fun q hq => hI.2.2.2.2 q hq) ?_
      exact lw_ret (d0 := s.drawn) (Drawn.sameBut.refl s.drawn lw_cs) F.1 F.2.1 hr hlk dL_law_691
    have nx : ∀ (G' : GS) (L' K' : Nat → Nat) (hs' : Int64), i + 4 ≤ L + 4 → ok G' → LV p l e s m #[Value.ref b] below meth c (lw_Z below #[Value.ref b] s) D b hX qX cX hM qM cM i (G', L') (G', K', hs') 684 [] := fun G' L' K' hs' hi4 hG' => by
      unfold LV
      refine x_iinc (v := nI (i + 4)) (lv' := [(0, .ref b), (1, .ref hX), (2, .ref hM), (3, .int (nI (i + 4)))]) (pc := 684) F dL_law_684 3 rfl (nx_inc (b := 4) i (by decide)) (by decide) [1, 2, 3, 0] rfl ?_
      refine x_goto (tgt := 18) (pc := 687) F dL_law_687 (by decide) ?_
      exact ih (i + 4) G' L' K' hs' hG' hi4 (by omega)
    unfold LV at *
    refine x_iload_n (pc := 18) F dL_law_18 3 rfl rfl ?_
    refine x_aload_n (pc := 19) F dL_law_19 0 rfl rfl ?_
    refine y_slen (pc := 20) F hXs hbl dL_law_20 ?_
    refine x_iconst (v := nI 4) (pc := 21) F dL_law_21 (by decide) ?_
    by_cases h4 : L < 4
    · refine x_isub (pc := 22) F dL_law_22 rfl ?_
      exact x_icmp_gt (tgt := 690) (pc := 23) F dL_law_23 (by decide) (fun _ => fin) (fun hc => absurd (sm_lt L h4 i (by omega)) hc)
    · refine x_isub (z := nI (L - 4)) (pc := 22) F dL_law_22 (sub4 (by omega) hL) ?_
      refine x_icmpN_gt (tgt := 690) (pc := 23) F dL_law_23 (by decide) (by omega) (by omega) (fun _ => fin) (fun hc => ?_)
      refine x_aload_n (pc := 26) F dL_law_26 0 rfl rfl ?_
      refine x_iload_n (pc := 27) F dL_law_27 3 rfl rfl ?_
      refine y_sld (pc := 28) F hXs hbl hL (by omega) dL_law_28 ?_
      refine x_bipush (v := nI 31) (pc := 29) F dL_law_29 (by decide) ?_
      obtain ⟨k, hk, ek⟩ := and31 (xs i)
      refine x_iand (z := nI k) (pc := 31) F dL_law_31 ek ?_
      by_cases hk0 : k = 0
      · subst hk0
        exact x_tableIn (off := 120) (tgt := 152) (pc := 32) F dL_law_32 (by decide) (by decide) (by decide) (by decide) (lc_newSchedule l C0 (by omega) hG (fun G' L' K' hs' hG' => nx G' L' K' hs' (by omega) hG'))
      by_cases hk1 : k = 1
      · subst hk1
        exact x_tableIn (off := 153) (tgt := 185) (pc := 32) F dL_law_32 (by decide) (by decide) (by decide) (by decide) (lc_setGraph l C0 (by omega) hG (fun G' L' K' hs' hG' => nx G' L' K' hs' (by omega) hG'))
      by_cases hk2 : k = 2
      · subst hk2
        exact x_tableIn (off := 176) (tgt := 208) (pc := 32) F dL_law_32 (by decide) (by decide) (by decide) (by decide) (lc_areNeighbors l C0 (by omega) hG (fun G' L' K' hs' hG' => nx G' L' K' hs' (by omega) hG'))
      by_cases hk3 : k = 3
      · subst hk3
        exact x_tableIn (off := 209) (tgt := 241) (pc := 32) F dL_law_32 (by decide) (by decide) (by decide) (by decide) (lc_addRound l C0 (by omega) hG (fun G' L' K' hs' hG' => nx G' L' K' hs' (by omega) hG'))
      by_cases hk4 : k = 4
      · subst hk4
        exact x_tableIn (off := 222) (tgt := 254) (pc := 32) F dL_law_32 (by decide) (by decide) (by decide) (by decide) (lc_addCall l C0 (by omega) hG (fun G' L' K' hs' hG' => nx G' L' K' hs' (by omega) hG'))
      by_cases hk5 : k = 5
      · subst hk5
        exact x_tableIn (off := 281) (tgt := 313) (pc := 32) F dL_law_32 (by decide) (by decide) (by decide) (by decide) (lc_removeLastRound l C0 (by omega) hG (fun G' L' K' hs' hG' => nx G' L' K' hs' (by omega) hG'))
      by_cases hk6 : k = 6
      · subst hk6
        exact x_tableIn (off := 294) (tgt := 326) (pc := 32) F dL_law_32 (by decide) (by decide) (by decide) (by decide) (lc_append l C0 (by omega) hG (fun G' L' K' hs' hG' => nx G' L' K' hs' (by omega) hG'))
      by_cases hk7 : k = 7
      · subst hk7
        exact x_tableIn (off := 317) (tgt := 349) (pc := 32) F dL_law_32 (by decide) (by decide) (by decide) (by decide) (lc_clearInput l C0 (by omega) hG (fun G' L' K' hs' hG' => nx G' L' K' hs' (by omega) hG'))
      by_cases hk8 : k = 8
      · subst hk8
        exact x_tableIn (off := 330) (tgt := 362) (pc := 32) F dL_law_32 (by decide) (by decide) (by decide) (by decide) (lc_firstError l C0 (by omega) hG (fun G' L' K' hs' hG' => nx G' L' K' hs' (by omega) hG'))
      by_cases hk9 : k = 9
      · subst hk9
        exact x_tableIn (off := 343) (tgt := 375) (pc := 32) F dL_law_32 (by decide) (by decide) (by decide) (by decide) (lc_load l C0 (by omega) hG (fun G' L' K' hs' hG' => nx G' L' K' hs' (by omega) hG'))
      by_cases hk10 : k = 10
      · subst hk10
        exact x_tableIn (off := 356) (tgt := 388) (pc := 32) F dL_law_32 (by decide) (by decide) (by decide) (by decide) (lc_buildDoubling l C0 (by omega) hG (fun G' L' K' hs' hG' => nx G' L' K' hs' (by omega) hG'))
      by_cases hk11 : k = 11
      · subst hk11
        exact x_tableIn (off := 369) (tgt := 401) (pc := 32) F dL_law_32 (by decide) (by decide) (by decide) (by decide) (lc_buildFourCore l C0 (by omega) hG (fun G' L' K' hs' hG' => nx G' L' K' hs' (by omega) hG'))
      by_cases hk12 : k = 12
      · subst hk12
        exact x_tableIn (off := 382) (tgt := 414) (pc := 32) F dL_law_32 (by decide) (by decide) (by decide) (by decide) (lc_buildGatherSpread l C0 (by omega) hG (fun G' L' K' hs' hG' => nx G' L' K' hs' (by omega) hG'))
      by_cases hk13 : k = 13
      · subst hk13
        exact x_tableIn (off := 395) (tgt := 427) (pc := 32) F dL_law_32 (by decide) (by decide) (by decide) (by decide) (lc_personCount l C0 (by omega) hG (fun G' L' K' hs' hG' => nx G' L' K' hs' (by omega) hG'))
      by_cases hk14 : k = 14
      · subst hk14
        exact x_tableIn (off := 408) (tgt := 440) (pc := 32) F dL_law_32 (by decide) (by decide) (by decide) (by decide) (lc_roundCount l C0 (by omega) hG (fun G' L' K' hs' hG' => nx G' L' K' hs' (by omega) hG'))
      by_cases hk15 : k = 15
      · subst hk15
        exact x_tableIn (off := 421) (tgt := 453) (pc := 32) F dL_law_32 (by decide) (by decide) (by decide) (by decide) (lc_callCount l C0 (by omega) hG (fun G' L' K' hs' hG' => nx G' L' K' hs' (by omega) hG'))
      by_cases hk16 : k = 16
      · subst hk16
        exact x_tableIn (off := 434) (tgt := 466) (pc := 32) F dL_law_32 (by decide) (by decide) (by decide) (by decide) (lc_describeCall l C0 (by omega) hG (fun G' L' K' hs' hG' => nx G' L' K' hs' (by omega) hG'))
      by_cases hk17 : k = 17
      · subst hk17
        exact x_tableIn (off := 457) (tgt := 489) (pc := 32) F dL_law_32 (by decide) (by decide) (by decide) (by decide) (lc_knowledge l C0 (by omega) hG (fun G' L' K' hs' hG' => nx G' L' K' hs' (by omega) hG'))
      by_cases hk18 : k = 18
      · subst hk18
        exact x_tableIn (off := 490) (tgt := 522) (pc := 32) F dL_law_32 (by decide) (by decide) (by decide) (by decide) (lc_completeAfter l C0 (by omega) hG (fun G' L' K' hs' hG' => nx G' L' K' hs' (by omega) hG'))
      by_cases hk19 : k = 19
      · subst hk19
        exact x_tableIn (off := 503) (tgt := 535) (pc := 32) F dL_law_32 (by decide) (by decide) (by decide) (by decide) (lc_redundantCalls l C0 (by omega) hG (fun G' L' K' hs' hG' => nx G' L' K' hs' (by omega) hG'))
      by_cases hk20 : k = 20
      · subst hk20
        exact x_tableIn (off := 516) (tgt := 548) (pc := 32) F dL_law_32 (by decide) (by decide) (by decide) (by decide) (lc_averageKnowledge l C0 (by omega) hG (fun G' L' K' hs' hG' => nx G' L' K' hs' (by omega) hG'))
      by_cases hk21 : k = 21
      · subst hk21
        exact x_tableIn (off := 539) (tgt := 571) (pc := 32) F dL_law_32 (by decide) (by decide) (by decide) (by decide) (lc_leastCalls l C0 (by omega) hG (fun G' L' K' hs' hG' => nx G' L' K' hs' (by omega) hG'))
      by_cases hk22 : k = 22
      · subst hk22
        exact x_tableIn (off := 578) (tgt := 610) (pc := 32) F dL_law_32 (by decide) (by decide) (by decide) (by decide) (lc_isCritical l C0 (by omega) hG (fun G' L' K' hs' hG' => nx G' L' K' hs' (by omega) hG'))
      by_cases hk23 : k = 23
      · subst hk23
        exact x_tableIn (off := 601) (tgt := 633) (pc := 32) F dL_law_32 (by decide) (by decide) (by decide) (by decide) (lc_smallestSufficientCalls l C0 (by omega) hG (fun G' L' K' hs' hG' => nx G' L' K' hs' (by omega) hG'))
      by_cases hk24 : k = 24
      · subst hk24
        exact x_tableIn (off := 614) (tgt := 646) (pc := 32) F dL_law_32 (by decide) (by decide) (by decide) (by decide) (lc_successProbability l C0 (by omega) hG (fun G' L' K' hs' hG' => nx G' L' K' hs' (by omega) hG'))
      by_cases hk25 : k = 25
      · subst hk25
        exact x_tableIn (off := 638) (tgt := 670) (pc := 32) F dL_law_32 (by decide) (by decide) (by decide) (by decide) (lc_digest l C0 (by omega) hG (fun G' L' K' hs' hG' => nx G' L' K' hs' (by omega) hG'))
      exact x_tableOut (tgt := 684) (pc := 32) F dL_law_32 (Or.inr (by rw [nI_toInt (by omega)]; omega)) (by decide) (nx G Lx K hs (by omega) hG)
