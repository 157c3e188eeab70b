/-! ===== part 40: the rules of a state are kept ===== -/
theorem ok_0 : ok G0 := ⟨by decide, by decide, by decide, by decide, by decide, by decide, by decide, fun j h => absurd h (Nat.not_lt_zero j), fun i j _ h => absurd h (Nat.not_lt_zero j), fun j h => absurd h (Nat.not_lt_zero j), fun h => absurd h (by decide)⟩
theorem ok_drop {G : GS} (h : ok G) : ok (dropG G) := by
  obtain ⟨h1, h2, h3, h4, h5, h6, h7, h8, h9, h10, h11⟩ := h
  exact ⟨h1, h2, h3, h4, Nat.zero_le _, Nat.zero_le _, h7, fun j h => absurd h (Nat.not_lt_zero j), fun i j _ h => absurd h (Nat.not_lt_zero j), h10, h11⟩
theorem ok_rnd {G : GS} (h : ok G) (h0 : G 3 0 < 16) : ok (up G 3 0 (G 3 0 + 1)) := by
  obtain ⟨h1, h2, h3, h4, h5, h6, h7, h8, h9, h10, h11⟩ := h
  exact ⟨h1, h2, h3, h4, h0, h6, h7, fun j hj => by
    obtain ⟨a, b⟩ := h8 j hj
    exact ⟨Nat.lt_succ_of_lt a, b⟩, h9, h10, h11⟩
theorem ok_in0 {G : GS} (h : ok G) : ok (up G 10 0 0) := by
  obtain ⟨h1, h2, h3, h4, h5, h6, h7, h8, h9, h10, h11⟩ := h
  exact ⟨h1, h2, h3, h4, h5, h6, Nat.zero_le _, h8, h9, fun j h => absurd h (Nat.not_lt_zero j), h11⟩
theorem put_5 (G : GS) (a b w j : Nat) : putG G a b w 5 j = if j = G 4 0 then G 3 0 - 1 else G 5 j := by simp [putG, up]
theorem put_6 (G : GS) (a b w j : Nat) : putG G a b w 6 j = if j = G 4 0 then a else G 6 j := by simp [putG, up]
theorem put_7 (G : GS) (a b w j : Nat) : putG G a b w 7 j = if j = G 4 0 then b else G 7 j := by simp [putG, up]
theorem put_8 (G : GS) (a b w j : Nat) : putG G a b w 8 j = if j = G 4 0 then w else G 8 j := by simp [putG, up]
theorem ok_put {G : GS} {a b w : Nat} (h : ok G) (hr : 1 ≤ G 3 0) (hc : G 4 0 < 28) (ha : a < G 0 0) (hb : b < G 0 0) (hab : a ≠ b) (hw : w < 2) : ok (putG G a b w) := by
  obtain ⟨h1, h2, h3, h4, h5, h6, h7, h8, h9, h10, h11⟩ := h
  refine ⟨h1, h2, h3, h4, h5, hc, h7, fun j hj => ?_, fun i j hij hj => ?_, h10, h11⟩
  · have hj : j < G 4 0 + 1 := hj
    rw [put_5, put_6, put_7, put_8, putG_o _ _ _ _ 0 (by decide), putG_o _ _ _ _ 0 (by decide)]
    by_cases e : j = G 4 0
    · rw [if_pos e, if_pos e, if_pos e, if_pos e]
      exact ⟨by omega, ha, hb, hab, hw⟩
    · rw [if_neg e, if_neg e, if_neg e, if_neg e]
      exact h8 j (by omega)
  · have hj : j < G 4 0 + 1 := hj
    rw [put_5, put_5]
    by_cases e : j = G 4 0
    · rw [if_pos e]
      by_cases e2 : i = G 4 0
      · rw [if_pos e2]; exact Nat.le_refl _
      · rw [if_neg e2]
        have := (h8 i (by omega)).1
        omega
    · rw [if_neg e, if_neg (by omega)]
      exact h9 i j hij (by omega)
theorem ok_newSchedule {G : GS} (h : ok G) (x y : Int32) : ok (sg_newSchedule G x y) := by
  unfold sg_newSchedule
  split
  · rename_i hc
    obtain ⟨h1, h2, h3, h4, h5, h6, h7, h8, h9, h10, h11⟩ := h
    refine ⟨?_, ?_, ?_, Nat.zero_le _, Nat.zero_le _, Nat.zero_le _, h7, fun j h => absurd h (Nat.not_lt_zero j), fun i j _ h => absurd h (Nat.not_lt_zero j), h10, fun h => ?_⟩
    · show 2 ≤ x.toInt.toNat; omega
    · show x.toInt.toNat ≤ 8; omega
    · show y.toInt.toNat ≤ 2; omega
    · have h : (0 : Nat) = 4 := h
      omega
  · exact h
theorem ok_setGraph {G : GS} (h : ok G) (x : Int32) : ok (sg_setGraph G x) := by
  unfold sg_setGraph
  split
  · split
    · exact h
    · rename_i hc hd
      obtain ⟨h1, h2, h3, h4, h5, h6, h7, h8, h9, h10, h11⟩ := h
      refine ⟨h1, h2, h3, ?_, h5, h6, h7, h8, h9, h10, fun h => ?_⟩
      · show x.toInt.toNat ≤ 4; omega
      · have h : x.toInt.toNat = 4 := h
        show cubeN G
        exact Classical.byContradiction (fun z => hd ⟨by omega, z⟩)
  · exact h
theorem ok_addRound {G : GS} (h : ok G) : ok (sg_addRound G) := by
  unfold sg_addRound
  split
  · exact ok_rnd h (by assumption)
  · exact h
theorem ok_addCall {G : GS} (h : ok G) (x y : Int32) {w : Nat} (hw : w < 2) : ok (sg_addCall G x y w) := by
  unfold sg_addCall
  split
  · split
    · split
      · exact h
      · split
        · exact h
        · split
          · split
            · rename_i h1 h2 h3 h4 h5 h6
              refine ok_put h (by omega) h6 (by omega) (by omega) (edge_iff.mp h2).1 hw
            · exact h
          · exact h
    · exact h
  · exact h
theorem cutN_lt (G : GS) (r : Nat) : ∀ c, (∀ i j, i ≤ j → j < c → G 5 i ≤ G 5 j) → ∀ j, j < cutN G r c → G 5 j < r
  | 0, _, j, h => absurd h (Nat.not_lt_zero j)
  | c + 1, hm, j, h => by
    have h : j < if r ≤ G 5 c then cutN G r c else c + 1 := h
    split at h
    · exact cutN_lt G r c (fun i j a b => hm i j a (by omega)) j h
    · have := hm j c (by omega) (by omega)
      omega
theorem ok_remove {G : GS} (h : ok G) : ok (sg_remove G) := by
  unfold sg_remove
  split
  · exact h
  · rename_i hc
    obtain ⟨h1, h2, h3, h4, h5, h6, h7, h8, h9, h10, h11⟩ := h
    have hl := cutN_le G (G 3 0 - 1) (G 4 0)
    have ht := cutN_lt G (G 3 0 - 1) (G 4 0) h9
    refine ⟨h1, h2, h3, h4, ?_, ?_, h7, fun j hj => ?_, fun i j hij hj => ?_, h10, h11⟩
    · show G 3 0 - 1 ≤ 16; omega
    · show cutN G (G 3 0 - 1) (G 4 0) ≤ 28; omega
    · have hj : j < cutN G (G 3 0 - 1) (G 4 0) := hj
      exact ⟨ht j hj, (h8 j (by omega)).2⟩
    · have hj : j < cutN G (G 3 0 - 1) (G 4 0) := hj
      exact h9 i j hij (by omega)
theorem ok_append {G : GS} (h : ok G) (x : Int32) : ok (sg_append G x) := by
  unfold sg_append
  split
  · split
    · rename_i hc hd
      obtain ⟨h1, h2, h3, h4, h5, h6, h7, h8, h9, h10, h11⟩ := h
      refine ⟨h1, h2, h3, h4, h5, h6, hd, h8, h9, fun j hj => ?_, h11⟩
      have hj : j < G 10 0 + 1 := hj
      show 32 ≤ (up G 9 (G 10 0) x.toInt.toNat) 9 j ∧ (up G 9 (G 10 0) x.toInt.toNat) 9 j ≤ 126
      by_cases e : j = G 10 0
      · rw [e, up_eq]; omega
      · rw [up_j _ _ e]; exact h10 j (by omega)
    · exact h
  · exact h
theorem ok_ldG {G : GS} (h : ok G) (hw : whole G) : ∀ t, 4 * t ≤ G 10 0 + 1 → ok (ldG G t)
  | 0, _ => ok_drop h
  | t + 1, ht => by
    have ih := ok_ldG h hw t (by omega)
    have b7 : G 10 0 ≤ 59 := h.2.2.2.2.2.2.1
    obtain ⟨i1, i2, i3, i4, i5⟩ := in_ok h hw (t := t) (by omega)
    have e0 := ldG_o G (k := 0) 0 (by decide) t
    have e4 := ldG_4 G t
    have e3 := ldG_3 G t
    have hb := bN_lt (G 9 (4 * t + 1) = 62)
    have eA : inA G t = G 9 (4 * t) - 48 := rfl
    have eB : inB G t = G 9 (4 * t + 2) - 48 := rfl
    by_cases hc : t = 0 ∨ G 9 (4 * t - 1) = 59
    · rw [ldG_s1 hc]
      refine ok_put (ok_rnd ih (by omega)) (Nat.succ_le_succ (Nat.zero_le _)) ?_ ?_ ?_ ?_ hb
      · rw [up_k _ _ (by decide), e4]; omega
      · rw [up_k _ _ (by decide), e0]; omega
      · rw [up_k _ _ (by decide), e0]; omega
      · omega
    · rw [ldG_s2 hc]
      refine ok_put ih (e3.2 (by omega)) ?_ ?_ ?_ ?_ hb
      · rw [e4]; omega
      · rw [e0]; omega
      · rw [e0]; omega
      · omega
theorem ok_load {G : GS} (h : ok G) : ok (sg_load G) := by
  unfold sg_load
  split
  · split
    · exact ok_in0 (ok_ldG h (by assumption) _ (by omega))
    · exact h
  · exact h
theorem ok_dbI {G : GS} {st : Nat} (h : ok G) (hr : 1 ≤ G 3 0) (hs : 1 ≤ st) : ∀ k, G 4 0 + k ≤ 28 → k + st ≤ G 0 0 → ok (dbI G st k)
  | 0, _, _ => h
  | k + 1, hk, hn => by
    have ih := ok_dbI h hr hs k (by omega) (by omega)
    by_cases q : k &&& st = 0
    · rw [dbI_t q]
      have e4 := dbI_4 G st k
      refine ok_put ih ?_ (by omega) ?_ ?_ (by omega) (by decide)
      · rw [dbI_o G st 0 (by decide)]; exact hr
      · rw [dbI_o G st 0 (by decide)]; omega
      · rw [dbI_o G st 0 (by decide)]; omega
    · rw [dbI_f q]; exact ih
theorem ok_dbO {G : GS} (h : ok G) : ∀ k, 2 ^ k ≤ G 0 0 → G 0 0 * k ≤ 24 → ok (dbO G k) ∧ dbO G k 3 0 ≤ k
  | 0, _, _ => ⟨ok_drop h, Nat.le_refl _⟩
  | k + 1, hk, hn => by
    have hp := Nat.two_pow_pos k
    rw [Nat.pow_succ] at hk
    rw [Nat.mul_succ] at hn
    obtain ⟨i1, i2⟩ := ok_dbO h k (by omega) (by omega)
    have e4 := dbO_4 G k
    have h2 : G 0 0 ≤ 8 := h.2.1
    have h1 : 2 ≤ G 0 0 := h.1
    have hk3 : k < 16 := Nat.lt_of_not_le (fun z => by
      have := Nat.mul_le_mul h1 z
      omega)
    have e0 := dbO_o G (a := 0) 0 (by decide) k
    refine ⟨ok_dbI (ok_rnd i1 (by omega)) (Nat.succ_le_succ (Nat.zero_le _)) hp _ ?_ ?_, ?_⟩
    · rw [up_k _ _ (by decide)]; omega
    · rw [up_k _ _ (by decide), e0]; omega
    · show dbI _ _ _ 3 0 ≤ _
      rw [dbI_o _ _ 0 (by decide), up_eq]
      omega
theorem ok_dbl {G : GS} (h : ok G) : ok (sg_dbl G) := by
  unfold sg_dbl
  split
  · split
    · exact h
    · split
      · rename_i hc _ _
        rcases hc with e | e | e
        · rw [show lgN (G 0 0) = 1 by rw [e]; rfl]; exact (ok_dbO h 1 (by rw [e]; decide) (by rw [e]; decide)).1
        · rw [show lgN (G 0 0) = 2 by rw [e]; rfl]; exact (ok_dbO h 2 (by rw [e]; decide) (by rw [e]; decide)).1
        · rw [show lgN (G 0 0) = 3 by rw [e]; rfl]; exact (ok_dbO h 3 (by rw [e]; decide) (by rw [e]; decide)).1
      · exact h
  · exact h
theorem ok_seq {G : GS} {w : Nat} {ca ce : Nat → Nat} (h : ok G) (hw : w < 2) : ∀ k, G 3 0 + k ≤ 16 → G 4 0 + k ≤ 28 → (∀ i, i < k → ca i < G 0 0 ∧ ce i < G 0 0 ∧ ca i ≠ ce i) → ok (seqG G w ca ce k)
  | 0, _, _, _ => h
  | k + 1, h3, h4, hi => by
    have ih := ok_seq h hw k (by omega) (by omega) (fun i q => hi i (by omega))
    have e3 := seq_3 G w ca ce k
    have e4 := seq_4 G w ca ce k
    have e0 := seq_o G w ca ce (a := 0) 0 (by decide) k
    obtain ⟨i1, i2, i3⟩ := hi k (by omega)
    refine ok_put (ok_rnd ih (by omega)) (Nat.succ_le_succ (Nat.zero_le _)) ?_ ?_ ?_ i3 hw
    · rw [up_k _ _ (by decide)]; omega
    · rw [up_k _ _ (by decide), e0]; exact i1
    · rw [up_k _ _ (by decide), e0]; exact i2
theorem ok_two {A : GS} {a b c d : Nat} (h : ok A) (h3 : A 3 0 < 16) (h4 : A 4 0 + 2 ≤ 28) (ha : a < A 0 0) (hb : b < A 0 0) (hab : a ≠ b) (hc : c < A 0 0) (hd : d < A 0 0) (hcd : c ≠ d) : ok (putG (putG (up A 3 0 (A 3 0 + 1)) a b 0) c d 0) := by
  refine ok_put (ok_put (ok_rnd h h3) (Nat.succ_le_succ (Nat.zero_le _)) ?_ ha hb hab (by decide)) ?_ ?_ ?_ ?_ hcd (by decide)
  · rw [up_k _ _ (by decide)]; omega
  · rw [putG_o _ _ _ _ 0 (by decide), up_eq]; omega
  · rw [putG_4, up_k _ _ (by decide)]; omega
  · rw [putG_o _ _ _ _ 0 (by decide), up_k _ _ (by decide)]; exact hc
  · rw [putG_o _ _ _ _ 0 (by decide), up_k _ _ (by decide)]; exact hd
theorem two_3 (A : GS) (a b c d : Nat) : putG (putG (up A 3 0 (A 3 0 + 1)) a b 0) c d 0 3 0 = A 3 0 + 1 := by
  rw [putG_o _ _ _ _ 0 (by decide), putG_o _ _ _ _ 0 (by decide), up_eq]
theorem two_4 (A : GS) (a b c d : Nat) : putG (putG (up A 3 0 (A 3 0 + 1)) a b 0) c d 0 4 0 = A 4 0 + 2 := by
  rw [putG_4, putG_4, up_k _ _ (by decide)]
theorem ok_fc {G : GS} (h : ok G) : ok (sg_fc G) := by
  unfold sg_fc
  split
  · split
    · exact h
    · split
      · rename_i h4 _ _
        have h8 : G 0 0 ≤ 8 := h.2.1
        have hA := ok_seq (w := 0) (ca := fun i => 4 + i) (ce := fun _ => 0) (ok_drop h) (by decide) (G 0 0 - 4) (by show 0 + _ ≤ _; omega) (by show 0 + _ ≤ _; omega) (fun i hi => ⟨by show 4 + i < G 0 0; omega, by show 0 < G 0 0; omega, by show 4 + i ≠ 0; omega⟩)
        have a3 := seq_3 (dropG G) 0 (fun i => 4 + i) (fun _ => 0) (G 0 0 - 4)
        have a4 := seq_4 (dropG G) 0 (fun i => 4 + i) (fun _ => 0) (G 0 0 - 4)
        have a0 := seq_o (dropG G) 0 (fun i => 4 + i) (fun _ => 0) (a := 0) 0 (by decide) (G 0 0 - 4)
        have d3 : dropG G 3 0 = 0 := rfl
        have d4 : dropG G 4 0 = 0 := rfl
        have d0 : dropG G 0 0 = G 0 0 := rfl
        have hf : fcF G = seqG (fcC (fcB (seqG (dropG G) 0 (fun i => 4 + i) (fun _ => 0) (G 0 0 - 4)))) 0 (fun _ => 0) (fun i => 4 + i) (G 0 0 - 4) := rfl
        rw [hf]
        generalize seqG (dropG G) 0 (fun i => 4 + i) (fun _ => 0) (G 0 0 - 4) = A at *
        have hB : ok (fcB A) := ok_two hA (by omega) (by omega) (by omega) (by omega) (by decide) (by omega) (by omega) (by decide)
        have b3 : fcB A 3 0 = A 3 0 + 1 := two_3 A 0 1 2 3
        have b4 : fcB A 4 0 = A 4 0 + 2 := two_4 A 0 1 2 3
        have b0 := fcB_o A (a := 0) 0 (by decide)
        generalize fcB A = B at *
        have hC : ok (fcC B) := ok_two hB (by omega) (by omega) (by omega) (by omega) (by decide) (by omega) (by omega) (by decide)
        have c3 : fcC B 3 0 = B 3 0 + 1 := two_3 B 0 2 1 3
        have c4 : fcC B 4 0 = B 4 0 + 2 := two_4 B 0 2 1 3
        have c0 := fcC_o B (a := 0) 0 (by decide)
        generalize fcC B = C at *
        exact ok_seq hC (by decide) _ (by omega) (by omega) (fun i hi => ⟨by show 0 < _; omega, by show 4 + i < _; omega, by show 0 ≠ 4 + i; omega⟩)
      · exact h
  · exact h
theorem ok_gs {G : GS} (h : ok G) : ok (sg_gs G) := by
  unfold sg_gs
  split
  · have h8 : G 0 0 ≤ 8 := h.2.1
    have h2 : 2 ≤ G 0 0 := h.1
    have hw : gsW G < 2 := bN_lt (G 1 0 = 2)
    have hn : gsN G ≤ G 0 0 - 1 := by unfold gsN; split <;> omega
    have hA := ok_seq (w := gsW G) (ca := fun i => 1 + i) (ce := fun _ => 0) (ok_drop h) hw (G 0 0 - 1) (by show 0 + _ ≤ _; omega) (by show 0 + _ ≤ _; omega) (fun i hi => ⟨by show 1 + i < G 0 0; omega, by show 0 < G 0 0; omega, by show 1 + i ≠ 0; omega⟩)
    have a3 := seq_3 (dropG G) (gsW G) (fun i => 1 + i) (fun _ => 0) (G 0 0 - 1)
    have a4 := seq_4 (dropG G) (gsW G) (fun i => 1 + i) (fun _ => 0) (G 0 0 - 1)
    have a0 := seq_o (dropG G) (gsW G) (fun i => 1 + i) (fun _ => 0) (a := 0) 0 (by decide) (G 0 0 - 1)
    have d3 : dropG G 3 0 = 0 := rfl
    have d4 : dropG G 4 0 = 0 := rfl
    have d0 : dropG G 0 0 = G 0 0 := rfl
    have hf : gsF G = seqG (seqG (dropG G) (gsW G) (fun i => 1 + i) (fun _ => 0) (G 0 0 - 1)) (gsW G) (fun _ => 0) (fun i => 1 + i) (gsN G) := rfl
    rw [hf]
    generalize gsN G = n at *
    generalize gsW G = w at *
    generalize seqG (dropG G) w (fun i => 1 + i) (fun _ => 0) (G 0 0 - 1) = A at *
    exact ok_seq hA hw _ (by omega) (by omega) (fun i hi => ⟨by show 0 < _; omega, by show 1 + i < _; omega, by show 0 ≠ 1 + i; omega⟩)
  · exact h
