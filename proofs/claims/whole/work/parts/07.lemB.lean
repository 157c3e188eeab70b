/-! ===== part 07: lemmas of the builders ===== -/
def hdS (G : GS) (t bz : Nat) : Prop := bz < 256 ∧ (0 < t → ∀ p, p < 8 → bz.testBit p = ((decide (inA G (t - 1) = p) || decide (inB G (t - 1) = p)) || bsy G p (t - 1)))
theorem inS_beg {G : GS} {t : Nat} (h : 4 * t = 0 ∨ G 9 (4 * t - 1) = 59) : inS G t 0 := by
  rcases t with _ | t
  · exact inS_0 G
  · refine inS_r ?_
    rw [show 4 * (t + 1) - 1 = 4 * t + 3 by omega] at h
    omega
theorem inS_not {G : GS} {t bz : Nat} (h : ¬ (4 * t = 0 ∨ G 9 (4 * t - 1) = 59)) (hd : hdS G t bz) (h5 : 0 < t → (G 9 (4 * t - 1) = 44 ∨ G 9 (4 * t - 1) = 59)) : inS G t bz := by
  rcases t with _ | t
  · exact absurd (Or.inl rfl) h
  · refine ⟨hd.1, fun p hp => ?_⟩
    rw [hd.2 (by omega) p hp]
    have e := h5 (by omega)
    rw [show 4 * (t + 1) - 1 = 4 * t + 3 by omega] at e h
    show _ = if G 9 (4 * t + 3) = 44 then _ else false
    rw [if_pos (by omega)]
    rfl
theorem hdS_0 (G : GS) : hdS G 0 0 := ⟨by decide, fun h => absurd h (by decide)⟩
theorem hdS_s {G : GS} {t ef : Nat} (h : inS G t ef) (ha : inA G t < 8) (hb : inB G t < 8) : hdS G (t + 1) (ef ||| (1 * 2 ^ (inA G t) ||| 1 * 2 ^ (inB G t))) := ⟨lt_pair h.1 ha hb, fun _ p hp => by
  rw [tb_pair, h.2 p hp, Bool.or_comm]; rfl⟩
theorem erF_s {G : GS} {k t : Nat} (h : 0 < k) : erF G k t = if edge G (inA G t) (inB G t) then (if bsy G (inA G t) t = true ∨ bsy G (inB G t) t = true then -9 else (if acc G (inW G t) then erF G (k - 1) (t + 1) else -11)) else -10 := by
  obtain ⟨k, rfl⟩ : ∃ z, k = z + 1 := ⟨k - 1, by omega⟩
  rfl
/-- k rounds of one call each: call i joins ca i and ce i -/
def seqG (G : GS) (w : Nat) (ca ce : Nat → Nat) : Nat → GS
  | 0 => G
  | k + 1 => putG (up (seqG G w ca ce k) 3 0 (seqG G w ca ce k 3 0 + 1)) (ca k) (ce k) w
theorem seq_o (G : GS) (w : Nat) (ca ce : Nat → Nat) {a : Nat} (j : Nat) (h : a ≠ 3 ∧ a ≠ 4 ∧ a ≠ 5 ∧ a ≠ 6 ∧ a ≠ 7 ∧ a ≠ 8) : ∀ k, seqG G w ca ce k a j = G a j
  | 0 => rfl
  | k + 1 => by
    show putG _ _ _ _ a j = _
    rw [putG_o _ _ _ _ j ⟨h.2.1, h.2.2⟩, up_k _ _ h.1, seq_o G w ca ce j h k]
theorem seq_4 (G : GS) (w : Nat) (ca ce : Nat → Nat) : ∀ k, seqG G w ca ce k 4 0 = G 4 0 + k
  | 0 => rfl
  | k + 1 => by
    show putG _ _ _ _ 4 0 = _
    rw [putG_4, up_k _ _ (by decide), seq_4 G w ca ce k, Nat.add_assoc]
theorem seq_3 (G : GS) (w : Nat) (ca ce : Nat → Nat) : ∀ k, seqG G w ca ce k 3 0 = G 3 0 + k
  | 0 => rfl
  | k + 1 => by
    show putG _ _ _ _ 3 0 = _
    rw [putG_o _ _ _ _ 0 (by decide), up_eq, seq_3 G w ca ce k, Nat.add_assoc]
abbrev gat (G : GS) (w f k : Nat) : GS := seqG G w (fun i => f + i) (fun _ => 0) k
abbrev spr (G : GS) (w f k : Nat) : GS := seqG G w (fun _ => 0) (fun i => f + i) k
/-- one round of the doubling scheme, persons below p -/
def dbI (G : GS) (s : Nat) : Nat → GS
  | 0 => G
  | p + 1 => if p &&& s = 0 then putG (dbI G s p) p (p + s) 0 else dbI G s p
theorem dbI_t {G : GS} {s p : Nat} (h : p &&& s = 0) : dbI G s (p + 1) = putG (dbI G s p) p (p + s) 0 := if_pos h
theorem dbI_f {G : GS} {s p : Nat} (h : ¬ p &&& s = 0) : dbI G s (p + 1) = dbI G s p := if_neg h
theorem dbI_o (G : GS) (s : Nat) {a : Nat} (j : Nat) (h : a ≠ 4 ∧ a ≠ 5 ∧ a ≠ 6 ∧ a ≠ 7 ∧ a ≠ 8) : ∀ k, dbI G s k a j = G a j
  | 0 => rfl
  | k + 1 => by
    by_cases q : k &&& s = 0
    · rw [dbI_t q, putG_o _ _ _ _ j h, dbI_o G s j h k]
    · rw [dbI_f q, dbI_o G s j h k]
theorem dbI_4 (G : GS) (s : Nat) : ∀ k, dbI G s k 4 0 ≤ G 4 0 + k
  | 0 => Nat.le_refl _
  | k + 1 => by
    have ih := dbI_4 G s k
    by_cases q : k &&& s = 0
    · rw [dbI_t q, putG_4]; omega
    · rw [dbI_f q]; omega
theorem db_fin {n s p : Nat} (hn : n = 2 ∨ n = 4 ∨ n = 8) (hs : s = 1 ∨ s = 2 ∨ s = 4) (hsn : s < n) (h1 : n - s ≤ p) (h2 : p < n) : ¬ (p &&& s = 0) := by
  have hp : p = 0 ∨ p = 1 ∨ p = 2 ∨ p = 3 ∨ p = 4 ∨ p = 5 ∨ p = 6 ∨ p = 7 := by omega
  rcases hn with rfl | rfl | rfl <;> rcases hs with rfl | rfl | rfl <;> rcases hp with rfl | rfl | rfl | rfl | rfl | rfl | rfl | rfl <;> first | omega | decide
theorem dbI_end {G : GS} {s n : Nat} (hn : n = 2 ∨ n = 4 ∨ n = 8) (hs : s = 1 ∨ s = 2 ∨ s = 4) (hsn : s < n) : ∀ k, n - s + k ≤ n → dbI G s (n - s + k) = dbI G s (n - s)
  | 0, _ => rfl
  | k + 1, h => by
    show dbI G s (n - s + k + 1) = _
    rw [dbI_f (db_fin hn hs hsn (by omega) (by omega)), dbI_end hn hs hsn k (by omega)]
theorem dbI_fin {G : GS} {s n : Nat} (hn : n = 2 ∨ n = 4 ∨ n = 8) (hs : s = 1 ∨ s = 2 ∨ s = 4) (hsn : s < n) : dbI G s n = dbI G s (n - s) := by
  have h := dbI_end (G := G) hn hs hsn s (by omega)
  rwa [show n - s + s = n by omega] at h
/-- k rounds of it -/
def dbO (G : GS) : Nat → GS
  | 0 => dropG G
  | k + 1 => dbI (up (dbO G k) 3 0 (dbO G k 3 0 + 1)) (2 ^ k) (G 0 0 - 2 ^ k)
theorem dbO_o (G : GS) {a : Nat} (j : Nat) (h : a ≠ 3 ∧ a ≠ 4 ∧ a ≠ 5 ∧ a ≠ 6 ∧ a ≠ 7 ∧ a ≠ 8) : ∀ k, dbO G k a j = G a j
  | 0 => dropG_o G j ⟨h.1, h.2.1⟩
  | k + 1 => by
    show dbI _ _ _ a j = _
    rw [dbI_o _ _ j ⟨h.2.1, h.2.2⟩, up_k _ _ h.1, dbO_o G j h k]
theorem dbO_4 (G : GS) : ∀ k, dbO G k 4 0 ≤ G 0 0 * k
  | 0 => Nat.le_refl 0
  | k + 1 => by
    have ih := dbO_4 G k
    have h := dbI_4 (up (dbO G k) 3 0 (dbO G k 3 0 + 1)) (2 ^ k) (G 0 0 - 2 ^ k)
    rw [up_k _ _ (by decide)] at h
    show dbI _ _ _ 4 0 ≤ G 0 0 * (k + 1)
    rw [Nat.mul_succ]
    exact Nat.le_trans h (Nat.add_le_add ih (Nat.sub_le _ _))
def lgN (n : Nat) : Nat := if n = 2 then 1 else if n = 4 then 2 else 3
def sp_dbl (G : GS) : Int32 := if cubeN G then (if G 1 0 = 2 then -11 else (if G 2 0 = 0 ∨ G 2 0 = 4 then nI (dbO G (lgN (G 0 0)) 4 0) else -10)) else -14
def sg_dbl (G : GS) : GS := if cubeN G then (if G 1 0 = 2 then G else (if G 2 0 = 0 ∨ G 2 0 = 4 then dbO G (lgN (G 0 0)) else G)) else G
def fcB (A : GS) : GS := putG (putG (up A 3 0 (A 3 0 + 1)) 0 1 0) 2 3 0
def fcC (A : GS) : GS := putG (putG (up A 3 0 (A 3 0 + 1)) 0 2 0) 1 3 0
def fcF (G : GS) : GS := spr (fcC (fcB (gat (dropG G) 0 4 (G 0 0 - 4)))) 0 4 (G 0 0 - 4)
def sp_fc (G : GS) : Int32 := if 4 ≤ G 0 0 then (if G 1 0 = 2 then -11 else (if G 2 0 = 0 then nI (fcF G 4 0) else -10)) else -14
def sg_fc (G : GS) : GS := if 4 ≤ G 0 0 then (if G 1 0 = 2 then G else (if G 2 0 = 0 then fcF G else G)) else G
theorem fcB_o (G : GS) {a : Nat} (j : Nat) (h : a ≠ 3 ∧ a ≠ 4 ∧ a ≠ 5 ∧ a ≠ 6 ∧ a ≠ 7 ∧ a ≠ 8) : fcB G a j = G a j := by
  unfold fcB
  rw [putG_o _ _ _ _ j ⟨h.2.1, h.2.2⟩, putG_o _ _ _ _ j ⟨h.2.1, h.2.2⟩, up_k _ _ h.1]
theorem fcC_o (G : GS) {a : Nat} (j : Nat) (h : a ≠ 3 ∧ a ≠ 4 ∧ a ≠ 5 ∧ a ≠ 6 ∧ a ≠ 7 ∧ a ≠ 8) : fcC G a j = G a j := by
  unfold fcC
  rw [putG_o _ _ _ _ j ⟨h.2.1, h.2.2⟩, putG_o _ _ _ _ j ⟨h.2.1, h.2.2⟩, up_k _ _ h.1]
def allE (G : GS) : Nat → Bool
  | 0 => true
  | k + 1 => allE G k && decide (edge G 0 (k + 1))
theorem allE_no {G : GS} {k : Nat} (h : ¬ edge G 0 (k + 1)) : ∀ m, k < m → allE G m = false
  | 0, q => absurd q (by omega)
  | m + 1, q => by
    show (allE G m && decide (edge G 0 (m + 1))) = false
    by_cases e : m = k
    · subst e; rw [decide_eq_false h, Bool.and_false]
    · rw [allE_no h m (by omega), Bool.false_and]
abbrev gsW (G : GS) : Nat := bN (G 1 0 = 2)
abbrev gsN (G : GS) : Nat := if G 1 0 = 2 then G 0 0 - 1 else G 0 0 - 2
def gsF (G : GS) : GS := spr (gat (dropG G) (gsW G) 1 (G 0 0 - 1)) (gsW G) 1 (gsN G)
def sp_gs (G : GS) : Int32 := if allE G (G 0 0 - 1) = true then nI (gsF G 4 0) else -10
def sg_gs (G : GS) : GS := if allE G (G 0 0 - 1) = true then gsF G else G
def sp_desc (G : GS) (x : Int32) : Int32 := if inR x (G 4 0) then nI (1000 * G 5 x.toInt.toNat + 100 * G 8 x.toInt.toNat + 10 * G 6 x.toInt.toNat + G 7 x.toInt.toNat) else -7
abbrev sqr (G : GS) : Prop := G 2 0 = 0 ∨ G 2 0 = 4 ∨ (G 2 0 = 1 ∧ G 0 0 = 4)
def leN (G : GS) (w : Nat) : Nat := if w = 1 then 2 * G 0 0 - 2 else (if 4 ≤ G 0 0 ∧ sqr G then 2 * G 0 0 - 4 else 2 * G 0 0 - 3)
theorem erF_next {G : GS} {T t : Nat} (h : t < T) (he : edge G (inA G t) (inB G t)) (hb : ¬ (bsy G (inA G t) t = true ∨ bsy G (inB G t) t = true)) (ha : acc G (inW G t)) : erF G (T - (t + 1)) (t + 1) = erF G (T - t) t := by
  obtain ⟨k, hk⟩ : ∃ k, T - t = k + 1 := ⟨T - t - 1, by omega⟩
  rw [hk, show T - (t + 1) = k by omega]
  show _ = if _ then _ else _
  rw [if_pos he, if_neg hb, if_pos ha]
theorem feN_next {G : GS} {T i : Nat} (h : i < T) (hf : fit G i) : feN G (T - (i + 1)) (i + 1) = feN G (T - i) i := by
  obtain ⟨k, hk⟩ : ∃ k, T - i = k + 1 := ⟨T - i - 1, by omega⟩
  rw [hk, show T - (i + 1) = k by omega]
  exact (if_pos hf).symm
theorem gsF_t {G : GS} (h : G 1 0 = 2) : gsF G = spr (gat (dropG G) 1 1 (G 0 0 - 1)) 1 1 (G 0 0 - 1 + 1 - 1) := by
  unfold gsF
  rw [show gsW G = 1 from bN_t h, show gsN G = G 0 0 - 1 from if_pos h, Nat.add_sub_cancel]
theorem gsF_f {G : GS} (h : ¬ G 1 0 = 2) : gsF G = spr (gat (dropG G) 0 1 (G 0 0 - 1)) 0 1 (G 0 0 - 2 + 1 - 1) := by
  unfold gsF
  rw [show gsW G = 0 from bN_f h, show gsN G = G 0 0 - 2 from if_neg h, Nat.add_sub_cancel]
theorem fcF_e (G : GS) (h : 4 ≤ G 0 0) : fcF G = spr (fcC (fcB (gat (dropG G) 0 4 (G 0 0 - 4)))) 0 4 (G 0 0 - 1 + 1 - 4) := by
  unfold fcF
  rw [show G 0 0 - 1 + 1 - 4 = G 0 0 - 4 by omega]
theorem allE_s {G : GS} {k : Nat} (h : allE G k = true) (he : edge G 0 (k + 1)) : allE G (k + 1) = true := by
  show (allE G k && decide (edge G 0 (k + 1))) = true
  rw [h, decide_eq_true he]; rfl
theorem lg_pow {k stp : Nat} (h : (k = 0 ∧ stp = 1) ∨ (k = 1 ∧ stp = 2) ∨ (k = 2 ∧ stp = 4) ∨ (k = 3 ∧ stp = 8)) : stp = 2 ^ k := by
  rcases h with ⟨rfl, rfl⟩ | ⟨rfl, rfl⟩ | ⟨rfl, rfl⟩ | ⟨rfl, rfl⟩ <;> rfl
theorem lg_end {n k stp : Nat} (hn : n = 2 ∨ n = 4 ∨ n = 8) (h : (k = 0 ∧ stp = 1) ∨ (k = 1 ∧ stp = 2) ∨ (k = 2 ∧ stp = 4) ∨ (k = 3 ∧ stp = 8)) (h1 : stp ≤ n) (h2 : n ≤ stp) : lgN n = k := by
  have e : n = stp := by omega
  subst e
  rcases h with ⟨rfl, rfl⟩ | ⟨rfl, rfl⟩ | ⟨rfl, rfl⟩ | ⟨rfl, rfl⟩
  · omega
  · rfl
  · rfl
  · rfl
theorem lg_shl {k stp : Nat} (h : (k = 0 ∧ stp = 1) ∨ (k = 1 ∧ stp = 2) ∨ (k = 2 ∧ stp = 4) ∨ (k = 3 ∧ stp = 8)) : nI 1 <<< (nI k &&& 31) = nI stp := by
  rcases h with ⟨rfl, rfl⟩ | ⟨rfl, rfl⟩ | ⟨rfl, rfl⟩ | ⟨rfl, rfl⟩ <;> decide +kernel
