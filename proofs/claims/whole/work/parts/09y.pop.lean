/-! ===== part 09y: Long.bitCount over eight bytes ===== -/
def b8 (X : Nat → Nat) : Prop := ∀ p, X p < 256
theorem b8_lt {X : Nat → Nat} (h : b8 X) (n : Nat) : ∀ p, p < n → X p < 256 := fun p _ => h p
theorem pk_add1 {X : Nat → Nat} (h : b8 X) (n : Nat) : pkN X (n + 1) = pkN X n + X n * 2 ^ (8 * n) := by
  show pkN X n ||| X n * 2 ^ (8 * n) = _
  rw [Nat.or_comm, Nat.mul_comm, ← Nat.two_pow_add_eq_or_of_lt (pkN_lt n (b8_lt h n)), Nat.add_comm]
theorem pk_plus {X Y : Nat → Nat} (hX : b8 X) (hY : b8 Y) (hZ : b8 (fun p => X p + Y p)) : ∀ n, pkN X n + pkN Y n = pkN (fun p => X p + Y p) n
  | 0 => rfl
  | n + 1 => by
    rw [pk_add1 hX, pk_add1 hY, pk_add1 hZ, ← pk_plus hX hY hZ n, Nat.add_mul]
    omega
theorem pk_minus {X Y : Nat → Nat} (hX : b8 X) (h : ∀ p, Y p ≤ X p) (n : Nat) : pkN X n - pkN Y n = pkN (fun p => X p - Y p) n ∧ pkN Y n ≤ pkN X n := by
  have hY : b8 Y := fun p => Nat.lt_of_le_of_lt (h p) (hX p)
  have hZ : b8 (fun p => X p - Y p) := fun p => Nat.lt_of_le_of_lt (Nat.sub_le _ _) (hX p)
  have e : (fun p => (fun p => X p - Y p) p + Y p) = X := funext fun p => Nat.sub_add_cancel (h p)
  have e2 := pk_plus hZ hY (by rw [e]; exact hX) n
  rw [e] at e2
  omega
theorem pk_ext {a : Nat} {X : Nat → Nat} (hX : b8 X) (ha : a < 2 ^ 64) (h : ∀ p i, p < 8 → i < 8 → a.testBit (8 * p + i) = (X p).testBit i) : a = pkN X 8 := by
  apply Nat.eq_of_testBit_eq
  intro j
  by_cases hj : j < 64
  · have e : j = 8 * (j / 8) + j % 8 := by omega
    rw [e, h (j / 8) (j % 8) (by omega) (by omega), pk_tb 8 (b8_lt hX 8) (j / 8) (j % 8) (by omega), decide_eq_true (show j / 8 < 8 by omega), Bool.true_and]
  · rw [Nat.testBit_lt_two_pow (Nat.lt_of_lt_of_le ha (Nat.pow_le_pow_right (by decide) (by omega))), Nat.testBit_lt_two_pow (Nat.lt_of_lt_of_le (pkN_lt 8 (b8_lt hX 8)) (Nat.pow_le_pow_right (by decide) (by omega)))]
theorem pkb_and {X : Nat → Nat} (hX : b8 X) (m : Nat) (hm : m < 256) : pkN X 8 &&& pkN (fun _ => m) 8 = pkN (fun p => X p &&& m) 8 := by
  have hZ : b8 (fun p => X p &&& m) := fun p => Nat.lt_of_le_of_lt Nat.and_le_right hm
  refine pk_ext hZ (Nat.lt_of_le_of_lt Nat.and_le_left (pkN_lt 8 (b8_lt hX 8))) (fun p i hp hi => ?_)
  rw [Nat.testBit_and, pk_tb 8 (b8_lt hX 8) p i hi, pk_tb 8 (fun _ _ => hm) p i hi, decide_eq_true hp, Bool.true_and, Bool.true_and, Nat.testBit_and]
theorem pk_shr_and {X : Nat → Nat} (hX : b8 X) (k m : Nat) (hk : k ≤ 8) (hm : m < 2 ^ (8 - k)) : pkN X 8 / 2 ^ k &&& pkN (fun _ => m) 8 = pkN (fun p => X p / 2 ^ k &&& m) 8 := by
  have hm8 : m < 256 := Nat.lt_of_lt_of_le hm (Nat.pow_le_pow_right (n := 2) (j := 8) (by decide) (by omega))
  have hZ : b8 (fun p => X p / 2 ^ k &&& m) := fun p => Nat.lt_of_le_of_lt Nat.and_le_right hm8
  refine pk_ext hZ (Nat.lt_of_le_of_lt Nat.and_le_right (pkN_lt 8 (fun _ _ => hm8))) (fun p i hp hi => ?_)
  rw [Nat.testBit_and, Nat.testBit_div_two_pow, pk_tb 8 (fun _ _ => hm8) p i hi, decide_eq_true hp, Bool.true_and, Nat.testBit_and, Nat.testBit_div_two_pow]
  by_cases h : i + k < 8
  · rw [show 8 * p + i + k = 8 * p + (i + k) by omega, pk_tb 8 (b8_lt hX 8) p (i + k) h, decide_eq_true hp, Bool.true_and]
  · rw [Nat.testBit_lt_two_pow (x := m) (i := i) (Nat.lt_of_lt_of_le hm (Nat.pow_le_pow_right (by decide) (by omega))), Bool.and_false, Bool.and_false]
theorem pk_byte {X : Nat → Nat} (hX : b8 X) (k : Nat) (h0 : ∀ p, 8 ≤ p → X p = 0) : pkN X 8 / 2 ^ (8 * k) = pkN (fun p => X (p + k)) 8 := by
  refine pk_ext (fun p => hX (p + k)) (Nat.lt_of_le_of_lt (Nat.div_le_self _ _) (pkN_lt 8 (b8_lt hX 8))) (fun p i hp hi => ?_)
  rw [Nat.testBit_div_two_pow, show 8 * p + i + 8 * k = 8 * (p + k) + i by omega, pk_tb 8 (b8_lt hX 8) (p + k) i hi]
  by_cases h : p + k < 8
  · rw [decide_eq_true h, Bool.true_and]
  · rw [decide_eq_false h, Bool.false_and, h0 (p + k) (by omega), Nat.zero_testBit]
-- the steps of bitCount, of a byte
def q1 (b : Nat) : Nat := b - (b / 2 &&& 85)
def q2 (b : Nat) : Nat := (b &&& 51) + (b / 4 &&& 51)
def q3 (b : Nat) : Nat := (b + b / 16) &&& 15
theorem q_tab : ∀ b, b < 256 → (b / 2 ^ 1 &&& 85) ≤ b ∧ q1 b < 256 ∧ q2 (q1 b) < 69 ∧ q2 (q1 b) % 16 < 5 ∧ q3 (q2 (q1 b)) = popN b 8 := by decide +kernel
theorem q3_mix : ∀ b, b < 69 → ∀ c, c < 5 → (b + (b / 16 + 16 * c)) < 256 ∧ ((b + (b / 16 + 16 * c)) &&& 15) = q3 b := by decide +kernel
theorem pk_nib {X : Nat → Nat} (hX : b8 X) (h0 : ∀ p, 8 ≤ p → X p = 0) : pkN X 8 / 2 ^ 4 = pkN (fun p => X p / 16 + 16 * (X (p + 1) % 16)) 8 := by
  have hZ : b8 (fun p => X p / 16 + 16 * (X (p + 1) % 16)) := fun p => by
    have := hX p
    show X p / 16 + 16 * (X (p + 1) % 16) < 256
    omega
  refine pk_ext hZ (Nat.lt_of_le_of_lt (Nat.div_le_self _ _) (pkN_lt 8 (b8_lt hX 8))) (fun p i hp hi => ?_)
  have e : X p / 16 + 16 * (X (p + 1) % 16) = 2 ^ 4 * (X (p + 1) % 2 ^ 4) + X p / 2 ^ 4 := by omega
  have hl : X p / 2 ^ 4 < 2 ^ 4 := by have := hX p; omega
  rw [Nat.testBit_div_two_pow, e, Nat.testBit_two_pow_mul_add _ hl]
  by_cases h : i < 4
  · rw [if_pos h, show 8 * p + i + 4 = 8 * p + (i + 4) by omega, pk_tb 8 (b8_lt hX 8) p (i + 4) (by omega), decide_eq_true hp, Bool.true_and, Nat.testBit_div_two_pow]
  · rw [if_neg h, show 8 * p + i + 4 = 8 * (p + 1) + (i - 4) by omega, pk_tb 8 (b8_lt hX 8) (p + 1) (i - 4) (by omega), Nat.testBit_mod_two_pow, decide_eq_true (show i - 4 < 4 by omega), Bool.true_and]
    by_cases h2 : p + 1 < 8
    · rw [decide_eq_true h2, Bool.true_and]
    · rw [decide_eq_false h2, Bool.false_and, h0 (p + 1) (by omega), Nat.zero_testBit]
def sumP (X : Nat → Nat) : Nat → Nat
  | 0 => 0
  | n + 1 => sumP X n + popN (X n) 8
theorem pop0 : ∀ n, popN 0 n = 0
  | 0 => rfl
  | n + 1 => by show popN 0 n + 0 / 2 ^ n % 2 = 0; rw [pop0 n, Nat.zero_div]
theorem sumP_hi {X : Nat → Nat} {n : Nat} (h : ∀ p, n ≤ p → X p = 0) : ∀ k, sumP X (n + k) = sumP X n
  | 0 => rfl
  | k + 1 => by
    show sumP X (n + k) + popN (X (n + k)) 8 = _
    rw [sumP_hi h k, h (n + k) (by omega), pop0, Nat.add_zero]
theorem sumP_cong {X Y : Nat → Nat} : ∀ n, (∀ p, p < n → X p = Y p) → sumP X n = sumP Y n
  | 0, _ => rfl
  | n + 1, h => by
    show sumP X n + popN (X n) 8 = sumP Y n + popN (Y n) 8
    rw [sumP_cong n (fun p hp => h p (by omega)), h n (by omega)]
def cX (n : Nat) (X : Nat → Nat) : Nat → Nat := fun p => if p < n then X p else 0
theorem pk_ext0 {X : Nat → Nat} {n : Nat} : ∀ k, pkN (cX n X) (n + k) = pkN X n
  | 0 => pk_cong n (fun p hp => if_pos hp)
  | k + 1 => by
    show pkN (cX n X) (n + k) ||| cX n X (n + k) * 2 ^ (8 * (n + k)) = _
    rw [pk_ext0 k, show cX n X (n + k) = 0 from if_neg (by omega), Nat.zero_mul, Nat.or_zero]
abbrev m1L : Nat := 6148914691236517205
abbrev m2L : Nat := 3689348814741910323
abbrev m4L : Nat := 1085102592571150095
theorem m1_pk : m1L = pkN (fun _ => 85) 8 := by decide +kernel
theorem m2_pk : m2L = pkN (fun _ => 51) 8 := by decide +kernel
theorem m4_pk : m4L = pkN (fun _ => 15) 8 := by decide +kernel
def y1 (x : Nat) : Nat := x - (x / 2 ^ 1 &&& m1L)
def y2 (x : Nat) : Nat := (x &&& m2L) + (x / 2 ^ 2 &&& m2L)
def y3 (x : Nat) : Nat := (x + x / 2 ^ 4) &&& m4L
def y4 (x : Nat) : Nat := x + x / 2 ^ 8
def y5 (x : Nat) : Nat := x + x / 2 ^ 16
def y6 (x : Nat) : Nat := x + x / 2 ^ 32
theorem and_mono (x m : Nat) : x &&& m ≤ x := Nat.and_le_left
theorem pop_le8 : ∀ b, b < 256 → popN b 8 ≤ 8 := fun b _ => pop_le b 8
/-- all of it, of eight bytes -/
theorem y_all {X : Nat → Nat} (hX : b8 X) (h0 : ∀ p, 8 ≤ p → X p = 0) :
    (pkN X 8 / 2 ^ 1 &&& m1L) ≤ pkN X 8 ∧ y1 (pkN X 8) < 2 ^ 64 ∧ y2 (y1 (pkN X 8)) < 2 ^ 63 ∧ y3 (y2 (y1 (pkN X 8))) < 2 ^ 60 ∧ y6 (y5 (y4 (y3 (y2 (y1 (pkN X 8)))))) &&& 127 = sumP X 8 := by
  have s1 : pkN X 8 / 2 ^ 1 &&& m1L = pkN (fun p => X p / 2 ^ 1 &&& 85) 8 := by rw [m1_pk]; exact pk_shr_and hX 1 85 (by decide) (by decide)
  have hm := pk_minus (Y := fun p => X p / 2 ^ 1 &&& 85) hX (fun p => (q_tab (X p) (hX p)).1) 8
  have e1 : y1 (pkN X 8) = pkN (fun p => q1 (X p)) 8 := by unfold y1; rw [s1, hm.1]; rfl
  have h1 : b8 (fun p => q1 (X p)) := fun p => (q_tab (X p) (hX p)).2.1
  have e2 : y2 (y1 (pkN X 8)) = pkN (fun p => q2 (q1 (X p))) 8 := by
    unfold y2
    rw [e1, m2_pk, pkb_and h1 51 (by decide), pk_shr_and h1 2 51 (by decide) (by decide)]
    refine pk_plus (fun p => Nat.lt_of_le_of_lt Nat.and_le_right (by decide)) (fun p => Nat.lt_of_le_of_lt Nat.and_le_right (by decide)) (fun p => ?_) 8
    have : q2 (q1 (X p)) < 69 := (q_tab (X p) (hX p)).2.2.1
    show q2 (q1 (X p)) < 256
    omega
  have h2 : b8 (fun p => q2 (q1 (X p))) := fun p => Nat.lt_trans (q_tab (X p) (hX p)).2.2.1 (by decide)
  have h20 : ∀ p, 8 ≤ p → q2 (q1 (X p)) = 0 := fun p hp => by rw [h0 p hp]; rfl
  have e3 : y3 (y2 (y1 (pkN X 8))) = pkN (fun p => popN (X p) 8) 8 := by
    unfold y3
    rw [e2, pk_nib h2 h20, m4_pk]
    have hz : b8 (fun p => q2 (q1 (X p)) + (q2 (q1 (X p)) / 16 + 16 * (q2 (q1 (X (p + 1))) % 16))) := fun p => (q3_mix _ (q_tab (X p) (hX p)).2.2.1 _ (q_tab (X (p + 1)) (hX (p + 1))).2.2.2.1).1
    have hy : b8 (fun p => q2 (q1 (X p)) / 16 + 16 * (q2 (q1 (X (p + 1))) % 16)) := fun p => Nat.lt_of_le_of_lt (Nat.le_add_left _ _) (hz p)
    rw [pk_plus h2 hy hz 8, pkb_and hz 15 (by decide)]
    refine pk_cong 8 (fun p _ => ?_)
    show (q2 (q1 (X p)) + (q2 (q1 (X p)) / 16 + 16 * (q2 (q1 (X (p + 1))) % 16))) &&& 15 = _
    rw [(q3_mix _ (q_tab (X p) (hX p)).2.2.1 _ (q_tab (X (p + 1)) (hX (p + 1))).2.2.2.1).2, (q_tab (X p) (hX p)).2.2.2.2]
  have hp8 : ∀ p, popN (X p) 8 ≤ 8 := fun p => pop_le (X p) 8
  have h3 : b8 (fun p => popN (X p) 8) := fun p => Nat.lt_of_le_of_lt (hp8 p) (by decide)
  have h30 : ∀ p, 8 ≤ p → popN (X p) 8 = 0 := fun p hp => by rw [h0 p hp]; rfl
  have e4 : y4 (y3 (y2 (y1 (pkN X 8)))) = pkN (fun p => popN (X p) 8 + popN (X (p + 1)) 8) 8 := by
    unfold y4
    rw [e3, show (2 : Nat) ^ 8 = 2 ^ (8 * 1) from rfl, pk_byte h3 1 h30]
    exact pk_plus h3 (fun p => h3 (p + 1)) (fun p => by have := hp8 p; have := hp8 (p + 1); show popN (X p) 8 + popN (X (p + 1)) 8 < 256; omega) 8
  have h4 : b8 (fun p => popN (X p) 8 + popN (X (p + 1)) 8) := fun p => by have := hp8 p; have := hp8 (p + 1); show popN (X p) 8 + popN (X (p + 1)) 8 < 256; omega
  have h40 : ∀ p, 8 ≤ p → popN (X p) 8 + popN (X (p + 1)) 8 = 0 := fun p hp => by rw [h30 p hp, h30 (p + 1) (by omega)]
  have h5 : b8 (fun p => popN (X p) 8 + popN (X (p + 1)) 8 + (popN (X (p + 2)) 8 + popN (X (p + 2 + 1)) 8)) := fun p => by have := hp8 p; have := hp8 (p + 1); have := hp8 (p + 2); have := hp8 (p + 2 + 1); show popN (X p) 8 + popN (X (p + 1)) 8 + (popN (X (p + 2)) 8 + popN (X (p + 2 + 1)) 8) < 256; omega
  have h50 : ∀ p, 8 ≤ p → popN (X p) 8 + popN (X (p + 1)) 8 + (popN (X (p + 2)) 8 + popN (X (p + 2 + 1)) 8) = 0 := fun p hp => by rw [h30 p hp, h30 (p + 1) (by omega), h30 (p + 2) (by omega), h30 (p + 2 + 1) (by omega)]
  have e5 : y5 (y4 (y3 (y2 (y1 (pkN X 8))))) = pkN (fun p => popN (X p) 8 + popN (X (p + 1)) 8 + (popN (X (p + 2)) 8 + popN (X (p + 2 + 1)) 8)) 8 := by
    unfold y5
    rw [e4, show (2 : Nat) ^ 16 = 2 ^ (8 * 2) from rfl, pk_byte h4 2 h40]
    exact pk_plus h4 (fun p => h4 (p + 2)) h5 8
  have h6 : b8 (fun p => popN (X p) 8 + popN (X (p + 1)) 8 + (popN (X (p + 2)) 8 + popN (X (p + 2 + 1)) 8) + (popN (X (p + 4)) 8 + popN (X (p + 4 + 1)) 8 + (popN (X (p + 4 + 2)) 8 + popN (X (p + 4 + 2 + 1)) 8))) := fun p => by
    have := hp8 p; have := hp8 (p + 1); have := hp8 (p + 2); have := hp8 (p + 2 + 1); have := hp8 (p + 4); have := hp8 (p + 4 + 1); have := hp8 (p + 4 + 2); have := hp8 (p + 4 + 2 + 1)
    show popN (X p) 8 + popN (X (p + 1)) 8 + (popN (X (p + 2)) 8 + popN (X (p + 2 + 1)) 8) + (popN (X (p + 4)) 8 + popN (X (p + 4 + 1)) 8 + (popN (X (p + 4 + 2)) 8 + popN (X (p + 4 + 2 + 1)) 8)) < 256
    omega
  have e6 : y6 (y5 (y4 (y3 (y2 (y1 (pkN X 8)))))) = pkN (fun p => popN (X p) 8 + popN (X (p + 1)) 8 + (popN (X (p + 2)) 8 + popN (X (p + 2 + 1)) 8) + (popN (X (p + 4)) 8 + popN (X (p + 4 + 1)) 8 + (popN (X (p + 4 + 2)) 8 + popN (X (p + 4 + 2 + 1)) 8))) 8 := by
    unfold y6
    rw [e5, show (2 : Nat) ^ 32 = 2 ^ (8 * 4) from rfl, pk_byte h5 4 h50]
    exact pk_plus h5 (fun p => h5 (p + 4)) h6 8
  refine ⟨by rw [s1]; exact hm.2, ?_, ?_, ?_, ?_⟩
  · rw [e1]; exact pkN_lt 8 (b8_lt h1 8)
  · have hh : y2 (y1 (pkN X 8)) ≤ m2L + m2L := Nat.add_le_add Nat.and_le_right Nat.and_le_right
    exact Nat.lt_of_le_of_lt hh (by decide)
  · have hh : y3 (y2 (y1 (pkN X 8))) ≤ m4L := Nat.and_le_right
    exact Nat.lt_of_le_of_lt hh (by decide)
  · have hi := pk_item (p := 0) (b8_lt h6 8) (by decide)
    rw [Nat.mul_zero, Nat.pow_zero, Nat.div_one] at hi
    rw [e6, show (127 : Nat) = 255 &&& 127 from rfl, ← Nat.and_assoc, hi]
    have := hp8 0; have := hp8 1; have := hp8 2; have := hp8 3; have := hp8 4; have := hp8 5; have := hp8 6; have := hp8 7
    show (popN (X 0) 8 + popN (X 1) 8 + (popN (X 2) 8 + popN (X 3) 8) + (popN (X 4) 8 + popN (X 5) 8 + (popN (X 6) 8 + popN (X 7) 8))) &&& 127 = 0 + popN (X 0) 8 + popN (X 1) 8 + popN (X 2) 8 + popN (X 3) 8 + popN (X 4) 8 + popN (X 5) 8 + popN (X 6) 8 + popN (X 7) 8
    rw [show (127 : Nat) = 2 ^ 7 - 1 from rfl, Nat.and_two_pow_sub_one_eq_mod]
    omega
