/-! ===== part 06: lemmas of batch A ===== -/
theorem nI_m1 {k : Nat} (h : k < 2147483648) : (nI k - 1).toInt = (k : Int) - 1 := by
  rw [Int32.toInt_sub, nI_toInt h]
  show ((k : Int) - 1).bmod (2 ^ 32) = _
  rw [Int.bmod_eq_of_le] <;> omega
theorem nI_d1 (j : Nat) : nI j + Int32.ofInt (-1) = nI j - 1 := by
  rw [Int32.sub_eq_add_neg]; rfl
theorem tb_pair (x a b p : Nat) : (x ||| (1 * 2 ^ a ||| 1 * 2 ^ b)).testBit p = (x.testBit p || (decide (a = p) || decide (b = p))) := by
  rw [Nat.one_mul, Nat.one_mul, Nat.testBit_or, Nat.testBit_or, Nat.testBit_two_pow, Nat.testBit_two_pow]
theorem lt_pair {x a b : Nat} (hx : x < 256) (ha : a < 8) (hb : b < 8) : (x ||| (1 * 2 ^ a ||| 1 * 2 ^ b)) < 256 := by
  have h1 : 1 * 2 ^ a < 2 ^ 8 := by rw [Nat.one_mul]; exact Nat.pow_lt_pow_right (by decide) ha
  have h2 : 1 * 2 ^ b < 2 ^ 8 := by rw [Nat.one_mul]; exact Nat.pow_lt_pow_right (by decide) hb
  exact Nat.or_lt_two_pow (n := 8) hx (Nat.or_lt_two_pow h1 h2)
theorem and_pair (x a b : Nat) : x &&& (1 * 2 ^ a ||| 1 * 2 ^ b) = 0 ↔ x.testBit a = false ∧ x.testBit b = false := by
  constructor
  · intro h
    have ha := congrArg (fun z : Nat => z.testBit a) h
    have hb := congrArg (fun z : Nat => z.testBit b) h
    simp only [Nat.one_mul, Nat.testBit_and, Nat.testBit_or, Nat.testBit_two_pow, Nat.zero_testBit, decide_true, Bool.true_or, Bool.or_true, Bool.and_true] at ha hb
    exact ⟨ha, hb⟩
  · rintro ⟨ha, hb⟩
    apply Nat.eq_of_testBit_eq
    intro i
    simp only [Nat.one_mul, Nat.testBit_and, Nat.testBit_or, Nat.testBit_two_pow, Nat.zero_testBit]
    by_cases h1 : a = i
    · subst h1; rw [ha]; rfl
    · by_cases h2 : b = i
      · subst h2; rw [hb]; rfl
      · simp [h1, h2]
theorem and_pair_lt {x : Nat} (y : Nat) (h : x < 256) : x &&& y < 2147483648 := Nat.lt_of_le_of_lt Nat.and_le_left (by omega)
theorem busyF_iff (G : GS) (p j : Nat) : busyF G p j = true ↔ G 5 j = G 3 0 - 1 ∧ (G 6 j = p ∨ G 7 j = p) := by simp [busyF]
def busyS (G : GS) (k bz : Nat) : Prop := bz < 256 ∧ ∀ p, p < 8 → (bz.testBit p = true ↔ ∃ j, k ≤ j ∧ j < G 4 0 ∧ busyF G p j = true)
theorem busyS_0 (G : GS) : busyS G (G 4 0) 0 := ⟨by decide, fun p _ => ⟨fun h => by simp at h, fun ⟨j, h1, h2, _⟩ => absurd h1 (by omega)⟩⟩
theorem busyS_step {G : GS} {j bz : Nat} (h : busyS G (j + 1) bz) (hj : j < G 4 0) (hr : G 5 j = G 3 0 - 1) (ha : G 6 j < 8) (hb : G 7 j < 8) : busyS G j (bz ||| (1 * 2 ^ (G 6 j) ||| 1 * 2 ^ (G 7 j))) := by
  refine ⟨lt_pair h.1 ha hb, fun p hp => ?_⟩
  rw [tb_pair, Bool.or_eq_true, h.2 p hp, Bool.or_eq_true, decide_eq_true_eq, decide_eq_true_eq]
  constructor
  · rintro (⟨i, h1, h2, h3⟩ | h1)
    · exact ⟨i, by omega, h2, h3⟩
    · exact ⟨j, Nat.le_refl j, hj, (busyF_iff G p j).mpr ⟨hr, h1⟩⟩
  · rintro ⟨i, h1, h2, h3⟩
    by_cases e : i = j
    · subst e; exact Or.inr ((busyF_iff G p i).mp h3).2
    · exact Or.inl ⟨i, by omega, h2, h3⟩
theorem busyS_end {G : GS} {k bz : Nat} (h : busyS G k bz) (hG : ok G) (h3 : G 3 0 ≠ 0) (hk : k ≤ G 4 0) (hs : k = 0 ∨ G 5 (k - 1) ≠ G 3 0 - 1) : ∀ p, p < 8 → bz.testBit p = busyB G p := by
  intro p hp
  apply Bool.eq_iff_iff.mpr
  rw [h.2 p hp, busyB, anyB_iff]
  constructor
  · rintro ⟨j, _, h2, h3⟩
    exact ⟨j, h2, h3⟩
  · rintro ⟨j, h1, h2⟩
    refine ⟨j, ?_, h1, h2⟩
    rcases hs with hs | hs
    · omega
    · apply Nat.le_of_not_lt
      intro hlt
      have e1 := ((busyF_iff G p j).mp h2).1
      have e2 := hG.2.2.2.2.2.2.2.2.1 j (k - 1) (by omega) (by omega)
      have e3 := (hG.2.2.2.2.2.2.2.1 (k - 1) (by omega)).1
      omega
abbrev dig (G : GS) (v : Nat) : Prop := 48 ≤ v ∧ v < 48 + G 0 0
abbrev fit (G : GS) (i : Nat) : Prop := (i % 4 = 0 → dig G (G 9 i)) ∧ (i % 4 = 1 → (G 9 i = 45 ∨ G 9 i = 62)) ∧ (i % 4 = 2 → (dig G (G 9 i) ∧ G 9 i ≠ G 9 (i - 2))) ∧ (i % 4 = 3 → (G 9 i = 44 ∨ G 9 i = 59))
def feN (G : GS) : Nat → Nat → Nat
  | 0, i => i
  | k + 1, i => if fit G i then feN G k (i + 1) else i
def fe (G : GS) : Nat := feN G (G 10 0) 0
theorem feN_le (G : GS) : ∀ k i, i ≤ feN G k i ∧ feN G k i ≤ i + k
  | 0, i => ⟨Nat.le_refl i, Nat.le_refl i⟩
  | k + 1, i => by
    have := feN_le G k (i + 1)
    show i ≤ (if fit G i then feN G k (i + 1) else i) ∧ (if fit G i then feN G k (i + 1) else i) ≤ i + (k + 1)
    split <;> omega
theorem feN_t {G : GS} {k i : Nat} (hk : 0 < k) (h : fit G i) : feN G k i = feN G (k - 1) (i + 1) := by
  obtain ⟨k, rfl⟩ : ∃ z, k = z + 1 := ⟨k - 1, by omega⟩
  exact if_pos h
theorem feN_f {G : GS} {k i : Nat} (hk : 0 < k) (h : ¬ fit G i) : feN G k i = i := by
  obtain ⟨k, rfl⟩ : ∃ z, k = z + 1 := ⟨k - 1, by omega⟩
  exact if_neg h
theorem feN_all {G : GS} : ∀ k i, feN G k i = i + k → ∀ j, i ≤ j → j < i + k → fit G j
  | 0, i, _, j, h1, h2 => absurd h1 (by omega)
  | k + 1, i, h, j, h1, h2 => by
    by_cases hf : fit G i
    · rw [feN_t (by omega) hf] at h
      by_cases e : j = i
      · subst e; exact hf
      · exact feN_all k (i + 1) (by rw [Nat.add_sub_cancel] at h; omega) j (by omega) (by omega)
    · rw [feN_f (by omega) hf] at h
      omega
theorem fe_all {G : GS} (h : fe G = G 10 0) : ∀ j, j < G 10 0 → fit G j := fun j hj => feN_all (G 10 0) 0 (by rw [Nat.zero_add]; exact h) j (Nat.zero_le j) (by omega)
theorem fe_le (G : GS) : fe G ≤ G 10 0 := by have := (feN_le G (G 10 0) 0).2; unfold fe; omega
abbrev whole (G : GS) : Prop := G 10 0 % 4 = 3 ∧ fe G = G 10 0
/-- the caller, the callee of call t of the input, and whether it is one-way -/
abbrev inA (G : GS) (t : Nat) : Nat := G 9 (4 * t) - 48
abbrev inB (G : GS) (t : Nat) : Nat := G 9 (4 * t + 2) - 48
abbrev inW (G : GS) (t : Nat) : Nat := bN (G 9 (4 * t + 1) = 62)
/-- whether p is in a call of the input ahead of call t, in the same round -/
def bsy (G : GS) (p : Nat) : Nat → Bool
  | 0 => false
  | t + 1 => if G 9 (4 * t + 3) = 44 then (decide (inA G t = p) || decide (inB G t = p)) || bsy G p t else false
def erF (G : GS) : Nat → Nat → Int32
  | 0, _ => 0
  | k + 1, t => if edge G (inA G t) (inB G t) then (if bsy G (inA G t) t = true ∨ bsy G (inB G t) t = true then -9 else (if acc G (inW G t) then erF G k (t + 1) else -11)) else -10
def er (G : GS) : Int32 := erF G ((G 10 0 + 1) / 4) 0
/-- what the input's first t calls make of the schedule -/
def ldG (G : GS) : Nat → GS
  | 0 => dropG G
  | t + 1 => putG (if t = 0 ∨ G 9 (4 * t - 1) = 59 then up (ldG G t) 3 0 (ldG G t 3 0 + 1) else ldG G t) (inA G t) (inB G t) (inW G t)
def ldF (G : GS) : GS := up (ldG G ((G 10 0 + 1) / 4)) 10 0 0
def sp_load (G : GS) : Int32 := if whole G then (if er G = 0 then nI ((G 10 0 + 1) / 4) else er G) else -4
def sg_load (G : GS) : GS := if whole G then (if er G = 0 then ldF G else G) else G
theorem putG_o (G : GS) (a b w : Nat) {k : Nat} (j : Nat) (h : k ≠ 4 ∧ k ≠ 5 ∧ k ≠ 6 ∧ k ≠ 7 ∧ k ≠ 8) : putG G a b w k j = G k j := by
  unfold putG
  rw [up_k _ _ h.1, up_k _ _ h.2.2.2.2, up_k _ _ h.2.2.2.1, up_k _ _ h.2.2.1, up_k _ _ h.2.1]
theorem putG_4 (G : GS) (a b w : Nat) : putG G a b w 4 0 = G 4 0 + 1 := rfl
theorem dropG_o (G : GS) {k : Nat} (j : Nat) (h : k ≠ 3 ∧ k ≠ 4) : dropG G k j = G k j := by
  unfold dropG
  rw [up_k _ _ h.2, up_k _ _ h.1]
theorem ldG_o (G : GS) {k : Nat} (j : Nat) (h : k ≠ 3 ∧ k ≠ 4 ∧ k ≠ 5 ∧ k ≠ 6 ∧ k ≠ 7 ∧ k ≠ 8) : ∀ t, ldG G t k j = G k j
  | 0 => dropG_o G j ⟨h.1, h.2.1⟩
  | t + 1 => by
    show putG _ _ _ _ k j = _
    rw [putG_o _ _ _ _ j ⟨h.2.1, h.2.2⟩]
    split
    · rw [up_k _ _ h.1, ldG_o G j h t]
    · rw [ldG_o G j h t]
theorem ldG_4 (G : GS) : ∀ t, ldG G t 4 0 = t
  | 0 => rfl
  | t + 1 => by
    show putG _ _ _ _ 4 0 = _
    rw [putG_4]
    split
    · rw [up_k _ _ (by decide), ldG_4 G t]
    · rw [ldG_4 G t]
theorem ldG_3 (G : GS) : ∀ t, ldG G t 3 0 ≤ t ∧ (0 < t → 1 ≤ ldG G t 3 0)
  | 0 => ⟨Nat.le_refl 0, fun h => absurd h (by decide)⟩
  | t + 1 => by
    have ih := ldG_3 G t
    have e : ldG G (t + 1) 3 0 = (if t = 0 ∨ G 9 (4 * t - 1) = 59 then up (ldG G t) 3 0 (ldG G t 3 0 + 1) else ldG G t) 3 0 := putG_o _ _ _ _ 0 (by decide)
    rw [e]
    split
    · rw [up_eq]; omega
    · next h => omega
theorem ldG_s1 {G : GS} {t : Nat} (h : t = 0 ∨ G 9 (4 * t - 1) = 59) : ldG G (t + 1) = putG (up (ldG G t) 3 0 (ldG G t 3 0 + 1)) (inA G t) (inB G t) (inW G t) := by
  show putG (if _ then _ else _) _ _ _ = _
  rw [if_pos h]
theorem ldG_s2 {G : GS} {t : Nat} (h : ¬ (t = 0 ∨ G 9 (4 * t - 1) = 59)) : ldG G (t + 1) = putG (ldG G t) (inA G t) (inB G t) (inW G t) := by
  show putG (if _ then _ else _) _ _ _ = _
  rw [if_neg h]
/-- what a whole input gives of call t -/
theorem in_ok {G : GS} (hG : ok G) (hw : whole G) {t : Nat} (ht : 4 * t + 2 < G 10 0) : dig G (G 9 (4 * t)) ∧ dig G (G 9 (4 * t + 2)) ∧ G 9 (4 * t) ≠ G 9 (4 * t + 2) ∧ (G 9 (4 * t + 1) = 45 ∨ G 9 (4 * t + 1) = 62) ∧ (0 < t → (G 9 (4 * t - 1) = 44 ∨ G 9 (4 * t - 1) = 59)) := by
  have h0 := (fe_all hw.2 (4 * t) (by omega)).1 (by omega)
  have h1 := (fe_all hw.2 (4 * t + 1) (by omega)).2.1 (by omega)
  have h2 := (fe_all hw.2 (4 * t + 2) (by omega)).2.2.1 (by omega)
  rw [show 4 * t + 2 - 2 = 4 * t by omega] at h2
  refine ⟨h0, h2.1, fun e => h2.2 e.symm, h1, fun h => ?_⟩
  exact (fe_all hw.2 (4 * t - 1) (by omega)).2.2.2 (by omega)
def inS (G : GS) (t ef : Nat) : Prop := ef < 256 ∧ ∀ p, p < 8 → ef.testBit p = bsy G p t
theorem inS_0 (G : GS) : inS G 0 0 := ⟨by decide, fun p _ => by rw [Nat.zero_testBit]; rfl⟩
theorem inS_r {G : GS} {t : Nat} (h : G 9 (4 * t + 3) = 59) : inS G (t + 1) 0 := ⟨by decide, fun p _ => by
  rw [Nat.zero_testBit]
  show false = if G 9 (4 * t + 3) = 44 then _ else false
  rw [if_neg (by omega)]⟩
theorem inS_s {G : GS} {t ef : Nat} (h : inS G t ef) (hc : G 9 (4 * t + 3) = 44) (ha : inA G t < 8) (hb : inB G t < 8) : inS G (t + 1) (ef ||| (1 * 2 ^ (inA G t) ||| 1 * 2 ^ (inB G t))) := ⟨lt_pair h.1 ha hb, fun p hp => by
  rw [tb_pair, h.2 p hp]
  show _ = if G 9 (4 * t + 3) = 44 then _ else false
  rw [if_pos hc, Bool.or_comm]⟩
theorem cutN_t {G : GS} {r c : Nat} (hc : 0 < c) (h : r ≤ G 5 (c - 1)) : cutN G r c = cutN G r (c - 1) := by
  obtain ⟨c, rfl⟩ : ∃ z, c = z + 1 := ⟨c - 1, by omega⟩
  exact if_pos h
theorem cutN_f {G : GS} {r c : Nat} (hc : 0 < c) (h : G 5 (c - 1) < r) : cutN G r c = c := by
  obtain ⟨c, rfl⟩ : ∃ z, c = z + 1 := ⟨c - 1, by omega⟩
  exact if_neg (Nat.not_le.mpr h)
