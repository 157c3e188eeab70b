/-! ===== part 09w: the probability ===== -/
abbrev c100 : UInt64 := 4636737291354636288
def pD (k : Nat) : UInt64 := FP.ddiv (FP.i2d (nI k)) c100
def qD (k : Nat) : UInt64 := FP.dsub FP.dconst1 (pD k)
def chD (a b : UInt64) (m : Nat) : Nat → UInt64
  | 0 => FP.dconst1
  | c + 1 => FP.dmul (chD a b m c) (if tbF m c = true then a else b)
def prF (G : GS) (k : Nat) : Nat → UInt64
  | 0 => FP.dconst0
  | m + 1 => if cmp G (tbF m) = true then FP.dadd (prF G k m) (chD (pD k) (qD k) m (G 4 0)) else prF G k m
def gD (x : UInt64) : Prop := x = FP.dconst0 ∨ ∃ E T : Nat, 900 ≤ E ∧ E ≤ 1023 ∧ T < 2 ^ 52 ∧ x.toNat = E * 2 ^ 52 + T
def sp_prob (G : GS) (x : Int32) : Int64 := if 0 ≤ x.toInt ∧ x.toInt ≤ 100 then (if 12 < G 4 0 then -15 else (prF G x.toInt.toNat (2 ^ (G 4 0))).toInt64) else -5
-- digest
def mx (h x : Int64) : Int64 := lN 31 * h + x
def mcF (G : GS) (h : Int64) : Nat → Int64
  | 0 => h
  | c + 1 => mx (mx (mcF G h c) (lN (dsN G c))) (lN (bN (crit G c)))
def mkP (X : Nat → Nat) (h : Int64) : Nat → Int64
  | 0 => h
  | p + 1 => mx (mkP X h p) (lN (X p))
theorem mkP_cong {X Y : Nat → Nat} (h : Int64) : ∀ n, (∀ p, p < n → X p = Y p) → mkP X h n = mkP Y h n
  | 0, _ => rfl
  | n + 1, q => by
    show mx (mkP X h n) (lN (X n)) = mx (mkP Y h n) (lN (Y n))
    rw [mkP_cong h n (fun p hp => q p (by omega)), q n (by omega)]
abbrev avR (G : GS) (m : Nat) : Int32 := avV (G 0 0) (sumP (kr G (rdF G m) (G 4 0)) (G 0 0))
def mkR (G : GS) (h : Int64) : Nat → Int64
  | 0 => h
  | m + 1 => mx (mkP (kr G (rdF G m) (G 4 0)) (mkR G h m) (G 0 0)) (avR G m).toInt64
def miF (G : GS) (h : Int64) : Nat → Int64
  | 0 => mx h (lN (G 10 0))
  | k + 1 => mx (miF G h k) (lN (G 9 k))
def dg1 (G : GS) : Int64 := mx (mx (mx (mx (mx (lN 1759) (lN (G 0 0))) (lN (G 1 0))) (lN (G 2 0))) (lN (G 3 0))) (lN (G 4 0))
def dg2 (G : GS) : Int64 := mkR G (mcF G (dg1 G) (G 4 0)) (G 3 0 + 1)
def dg3 (G : GS) : Int64 := mx (mx (mx (mx (mx (mx (dg2 G) (caV G).toInt64) (lN (rdN G (G 4 0)))) (lN (leN G 0))) (lN (leN G 1))) (sp_sm G).toInt64) (sp_prob G (nI 50))
def sp_dig (G : GS) : Int64 := miF G (dg3 G) (G 10 0)
theorem rdN_le (G : GS) : ∀ c, rdN G c ≤ c
  | 0 => Nat.le_refl 0
  | c + 1 => by
    have := rdN_le G c
    have := bN_lt (¬ lrn G c (kr G allT c))
    show rdN G c + bN (¬ lrn G c (kr G allT c)) ≤ c + 1
    omega
theorem leN_le (G : GS) (w : Nat) : leN G w ≤ 2 * G 0 0 := by unfold leN; (repeat' split) <;> omega
