/-! ===== part 05: what the system is: G 0 0 persons, G 1 0 mode, G 2 0 graph, G 3 0 rounds, G 4 0 calls, G 10 0 length; rows G 5 round, G 6 caller, G 7 callee, G 8 one-way, G 9 input ===== -/
def ok (G : GS) : Prop := 2 ≤ G 0 0 ∧ G 0 0 ≤ 8 ∧ G 1 0 ≤ 2 ∧ G 2 0 ≤ 4 ∧ G 3 0 ≤ 16 ∧ G 4 0 ≤ 28 ∧ G 10 0 ≤ 59 ∧ (∀ j, j < G 4 0 → G 5 j < G 3 0 ∧ G 6 j < G 0 0 ∧ G 7 j < G 0 0 ∧ G 6 j ≠ G 7 j ∧ G 8 j < 2) ∧ (∀ i j, i ≤ j → j < G 4 0 → G 5 i ≤ G 5 j) ∧ (∀ j, j < G 10 0 → 32 ≤ G 9 j ∧ G 9 j ≤ 126) ∧ (G 2 0 = 4 → G 0 0 = 2 ∨ G 0 0 = 4 ∨ G 0 0 = 8)
theorem nI_ofR {x : Int32} {n : Nat} (h0 : 0 ≤ x.toInt) (h : x.toInt < (n : Int)) : ∃ j, j < n ∧ x = nI j := by
  refine ⟨x.toInt.toNat, by omega, Int32.toInt_inj.mp ?_⟩
  rw [nI_toInt]
  · omega
  · have := Int32.toInt_lt x
    omega
theorem two_lt {a : Nat} (h : a < 8) : 1 * 2 ^ a < 2 ^ 32 := by
  rw [Nat.one_mul]; exact Nat.pow_lt_pow_right (by decide) (by omega)
theorem up_id (G : GS) (k j : Nat) : up G k j (G k j) = G := by
  funext a b
  unfold up
  split
  · next h => rw [h.1, h.2]
  · rfl
theorem up_up (G : GS) (k j v w : Nat) : up (up G k j v) k j w = up G k j w := by
  funext a b
  unfold up
  split <;> rfl
theorem up_comm (G : GS) {k j v k' j' v' : Nat} (h : k ≠ k') : up (up G k j v) k' j' v' = up (up G k' j' v') k j v := by
  funext a b
  unfold up
  split
  · next h1 =>
    split
    · next h2 => exact absurd (h2.1.symm.trans h1.1) h
    · rfl
  · rfl
def absD (x : Int32) : Int32 := if 0 ≤ x then x else 0 - x
theorem absD_sub {a b : Nat} (ha : a < 2 ^ 30) (hb : b < 2 ^ 30) : absD (nI a - nI b) = nI (a - b + (b - a)) := by
  unfold absD
  by_cases h : b ≤ a
  · rw [pk_sub h, if_pos (nI_pos' (by omega)), show b - a = 0 by omega, Nat.add_zero]
  · have h1 : nI a - nI b < 0 := pk_sneg hb (by omega)
    rw [if_neg (fun q => by have := Int32.lt_iff_toInt_lt.mp h1; have := Int32.le_iff_toInt_le.mp q; omega), show a - b = 0 by omega, Nat.zero_add, ← pk_sub (show a ≤ b by omega)]
    apply Int32.toInt_inj.mp
    have e1 := pk_sub_toInt ha hb
    have e2 := pk_sub_toInt hb ha
    rw [Int32.toInt_sub, e1, e2]
    show ((0 : Int) - _).bmod (2 ^ 32) = _
    rw [Int.bmod_eq_of_le] <;> omega
/-- how many of the lowest n bits are set -/
def popN (k : Nat) : Nat → Nat
  | 0 => 0
  | n + 1 => popN k n + k / 2 ^ n % 2
def bcU (x : Int32) (k : Int32) : Int32 := (x.toUInt32 >>> (k.toUInt32 &&& Int32.toUInt32 31)).toInt32
def bc1 (x : Int32) : Int32 := x - (bcU x (nI 1) &&& nI 1431655765)
def bc2 (x : Int32) : Int32 := (x &&& nI 858993459) + (bcU x (nI 2) &&& nI 858993459)
def bc3 (x : Int32) : Int32 := (x + bcU x (nI 4)) &&& nI 252645135
def bc4 (x : Int32) : Int32 := x + bcU x (nI 8)
def bc5 (x : Int32) : Int32 := x + bcU x (nI 16)
def bcI (x : Int32) : Int32 := bc5 (bc4 (bc3 (bc2 (bc1 x)))) &&& nI 63
theorem bcI_tab : ∀ a, a < 64 → ∀ b, b < 64 → bcI (nI (64 * a + b)) = nI (popN (64 * a + b) 12) := by decide +kernel
theorem bcI_small (k : Nat) (hk : k < 4096) : bcI (nI k) = nI (popN k 12) := by
  have h := bcI_tab (k / 64) (by omega) (k % 64) (by omega)
  rwa [Nat.div_add_mod] at h
abbrev edgeP (G : GS) (a b : Nat) : Prop := a ≠ b ∧ (G 2 0 = 1 → (a + 1 = b ∨ b + 1 = a ∨ (a = 0 ∧ b + 1 = G 0 0) ∨ (b = 0 ∧ a + 1 = G 0 0))) ∧ (G 2 0 = 2 → (a + 1 = b ∨ b + 1 = a)) ∧ (G 2 0 = 3 → (a = 0 ∨ b = 0)) ∧ (G 2 0 = 4 → (a ^^^ b = 1 ∨ a ^^^ b = 2 ∨ a ^^^ b = 4))
def edgeB (G : GS) (a b : Nat) : Bool := decide (edgeP G a b)
abbrev edge (G : GS) (a b : Nat) : Prop := edgeB G a b = true
theorem edge_iff {G : GS} {a b : Nat} : edge G a b ↔ edgeP G a b := by simp only [edge, edgeB, decide_eq_true_eq]
theorem pop_xor : ∀ a, a < 8 → ∀ b, b < 8 → (a ^^^ b < 4096 ∧ (popN (a ^^^ b) 12 = 1 ↔ (a ^^^ b = 1 ∨ a ^^^ b = 2 ∨ a ^^^ b = 4))) := by decide +kernel
theorem pop_n : ∀ n, n ≤ 8 → 2 ≤ n → (popN n 12 = 1 ↔ (n = 2 ∨ n = 4 ∨ n = 8)) := by decide +kernel
theorem pop_le (k : Nat) : ∀ n, popN k n ≤ n
  | 0 => Nat.le_refl 0
  | n + 1 => by
    have h1 := pop_le k n
    have h2 : k / 2 ^ n % 2 < 2 := Nat.mod_lt _ (by decide)
    show popN k n + k / 2 ^ n % 2 ≤ n + 1
    omega
abbrev cubeN (G : GS) : Prop := G 0 0 = 2 ∨ G 0 0 = 4 ∨ G 0 0 = 8
abbrev acc (G : GS) (w : Nat) : Prop := G 1 0 = 0 ∨ (w = 1 ↔ G 1 0 = 2)
def putG (G : GS) (a b w : Nat) : GS := up (up (up (up (up G 5 (G 4 0) (G 3 0 - 1)) 6 (G 4 0) a) 7 (G 4 0) b) 8 (G 4 0) w) 4 0 (G 4 0 + 1)
def dropG (G : GS) : GS := up (up G 3 0 0) 4 0 0
abbrev inR (x : Int32) (n : Nat) : Prop := 0 ≤ x.toInt ∧ x.toInt < (n : Int)
def sp_newSchedule (x y : Int32) : Int32 := if (2 ≤ x.toInt ∧ x.toInt ≤ 8) ∧ (0 ≤ y.toInt ∧ y.toInt ≤ 2) then x else -5
def sg_newSchedule (G : GS) (x y : Int32) : GS := if (2 ≤ x.toInt ∧ x.toInt ≤ 8) ∧ (0 ≤ y.toInt ∧ y.toInt ≤ 2) then dropG (up (up (up G 0 0 x.toInt.toNat) 1 0 y.toInt.toNat) 2 0 0) else G
def sp_setGraph (G : GS) (x : Int32) : Int32 := if 0 ≤ x.toInt ∧ x.toInt ≤ 4 then (if x.toInt = 4 ∧ ¬ cubeN G then -14 else nI (G 2 0)) else -5
def sg_setGraph (G : GS) (x : Int32) : GS := if 0 ≤ x.toInt ∧ x.toInt ≤ 4 then (if x.toInt = 4 ∧ ¬ cubeN G then G else up G 2 0 x.toInt.toNat) else G
def sp_areNeighbors (G : GS) (x y : Int32) : Int32 := if inR x (G 0 0) ∧ inR y (G 0 0) then nI (bN (edge G x.toInt.toNat y.toInt.toNat)) else -6
def sp_addRound (G : GS) : Int32 := if G 3 0 < 16 then nI (G 3 0 + 1) else -12
def sg_addRound (G : GS) : GS := if G 3 0 < 16 then up G 3 0 (G 3 0 + 1) else G
def anyB (f : Nat → Bool) : Nat → Bool
  | 0 => false
  | n + 1 => anyB f n || f n
theorem anyB_iff (f : Nat → Bool) : ∀ n, anyB f n = true ↔ ∃ j, j < n ∧ f j = true
  | 0 => ⟨fun h => Bool.noConfusion h, fun ⟨j, h, _⟩ => absurd h (Nat.not_lt_zero j)⟩
  | n + 1 => by
    show (anyB f n || f n) = true ↔ _
    rw [Bool.or_eq_true, anyB_iff f n]
    constructor
    · rintro (⟨j, h1, h2⟩ | h)
      · exact ⟨j, by omega, h2⟩
      · exact ⟨n, by omega, h⟩
    · rintro ⟨j, h1, h2⟩
      by_cases e : j = n
      · subst e; exact Or.inr h2
      · exact Or.inl ⟨j, by omega, h2⟩
/-- whether call j is of the last round and p takes part in it -/
def busyF (G : GS) (p j : Nat) : Bool := decide (G 5 j = G 3 0 - 1 ∧ (G 6 j = p ∨ G 7 j = p))
def busyB (G : GS) (p : Nat) : Bool := anyB (busyF G p) (G 4 0)
def sp_addCall (G : GS) (x y : Int32) (w : Nat) : Int32 := if inR x (G 0 0) ∧ inR y (G 0 0) then (if edge G x.toInt.toNat y.toInt.toNat then (if G 3 0 = 0 then -8 else (if busyB G x.toInt.toNat = true ∨ busyB G y.toInt.toNat = true then -9 else (if acc G w then (if G 4 0 < 28 then nI (G 4 0) else -13) else -11))) else -10) else -6
def sg_addCall (G : GS) (x y : Int32) (w : Nat) : GS := if inR x (G 0 0) ∧ inR y (G 0 0) then (if edge G x.toInt.toNat y.toInt.toNat then (if G 3 0 = 0 then G else (if busyB G x.toInt.toNat = true ∨ busyB G y.toInt.toNat = true then G else (if acc G w then (if G 4 0 < 28 then putG G x.toInt.toNat y.toInt.toNat w else G) else G))) else G) else G
theorem toNat_nI {j : Nat} (h : j < 2147483648) : (nI j).toInt.toNat = j := by rw [nI_toInt h]; rfl
theorem inR_nI {j n : Nat} (h : j < n) (hn : n < 2147483648) : inR (nI j) n := by
  unfold inR
  rw [nI_toInt (by omega)]
  omega
/-- removeLastRound: c goes down while the last call is of round r or later -/
def cutN (G : GS) (r : Nat) : Nat → Nat
  | 0 => 0
  | c + 1 => if r ≤ G 5 c then cutN G r c else c + 1
def sp_remove (G : GS) : Int32 := if G 3 0 = 0 then -8 else nI (G 3 0 - 1)
def sg_remove (G : GS) : GS := if G 3 0 = 0 then G else up (up G 3 0 (G 3 0 - 1)) 4 0 (cutN G (G 3 0 - 1) (G 4 0))
theorem cutN_le (G : GS) (r : Nat) : ∀ c, cutN G r c ≤ c
  | 0 => Nat.le_refl 0
  | c + 1 => by
    have := cutN_le G r c
    show (if r ≤ G 5 c then cutN G r c else c + 1) ≤ c + 1
    split <;> omega
def sp_append (G : GS) (x : Int32) : Int32 := if 32 ≤ x.toInt ∧ x.toInt ≤ 126 then (if G 10 0 < 59 then nI (G 10 0 + 1) else -3) else -2
def sg_append (G : GS) (x : Int32) : GS := if 32 ≤ x.toInt ∧ x.toInt ≤ 126 then (if G 10 0 < 59 then up (up G 9 (G 10 0) x.toInt.toNat) 10 0 (G 10 0 + 1) else G) else G
