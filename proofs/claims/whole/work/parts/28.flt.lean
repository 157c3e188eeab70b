/-! ===== part 28: bounds of doubles ===== -/
theorem chD_t {a b : UInt64} {m c : Nat} (h : tbF m c = true) : FP.dmul (chD a b m c) a = chD a b m (c + 1) := by
  show _ = FP.dmul (chD a b m c) (if tbF m c = true then a else b)
  rw [if_pos h]
theorem chD_f {a b : UInt64} {m c : Nat} (h : ¬ tbF m c = true) : FP.dmul (chD a b m c) b = chD a b m (c + 1) := by
  show _ = FP.dmul (chD a b m c) (if tbF m c = true then a else b)
  rw [if_neg h]
theorem prF_t {G : GS} {k m : Nat} (h : cmp G (tbF m) = true) : FP.dadd (prF G k m) (chD (pD k) (qD k) m (G 4 0)) = prF G k (m + 1) := (if_pos h).symm
theorem prF_f {G : GS} {k m : Nat} (h : ¬ cmp G (tbF m) = true) : prF G k (m + 1) = prF G k m := if_neg h
section FLT
abbrev Zd (x : UInt64) : Nat := FP.Core.zmag FP.Core.b64 (FP.Core.val64 x)
def NF (x : UInt64) : Prop := ∃ c q, FP.Core.val64 x = .fin false c q
theorem NF_bits {x : UInt64} (h : NF x) : x.toNat < 9218868437227405312 ∧ Zd x = FP.Core.unitsOf FP.Core.b64 x.toNat := by
  obtain ⟨c, q, h⟩ := h
  have hn : FP.Core.val64 x ≠ .nan := by rw [h]; exact FP.Core.Datum.noConfusion
  have h1 := FP.Core.sgn_bits hn
  rw [h] at h1
  have h2 : ¬ 2 ^ 63 ≤ x.toNat := of_decide_eq_false h1.symm
  have h3 := (FP.Core.fin_bits x).mp ⟨_, _, _, h⟩
  have h4 := FP.Core.zmag_bits hn
  rw [Nat.mod_eq_of_lt (by omega)] at h3 h4
  exact ⟨h3, h4⟩
theorem NF_of {x : UInt64} (h : x.toNat < 9218868437227405312) : NF x := by
  obtain ⟨s, c, q, h1⟩ := (FP.Core.fin_bits x).mpr (by omega)
  have hn : FP.Core.val64 x ≠ .nan := by rw [h1]; exact FP.Core.Datum.noConfusion
  have h2 := FP.Core.sgn_bits hn
  rw [h1, decide_eq_false (by omega)] at h2
  exact ⟨c, q, by rw [h1, show s = false from h2]⟩
theorem NF_ext {x y : UInt64} (hx : NF x) (hy : NF y) (h : Zd x = Zd y) : x = y := by
  have h1 := (NF_bits hx).2
  have h2 := (NF_bits hy).2
  have h3 := FP.Core.unitsOf_le_iff (f := FP.Core.b64) (m := x.toNat) (k := y.toNat)
  have h4 := FP.Core.unitsOf_le_iff (f := FP.Core.b64) (m := y.toNat) (k := x.toNat)
  refine UInt64.toNat_inj.mp ?_
  have a1 := h3.mp (by omega)
  have a2 := h4.mp (by omega)
  omega
theorem n64_of {x : UInt64} (h : x.toNat % 2 ^ 63 ≤ 9218868437227405312) : vf_n64 x := by
  unfold vf_n64
  rw [UInt64.le_iff_toNat_le, FP.Core.mask_toNat]
  exact h
theorem NF_n {x : UInt64} (h : NF x) : vf_n64 x := n64_of (by have := (NF_bits h).1; omega)
theorem NF_nan {x : UInt64} (h : NF x) : FP.Core.val64 x ≠ .nan := by
  obtain ⟨c, q, h⟩ := h
  rw [h]; exact FP.Core.Datum.noConfusion
theorem qm64 : FP.Core.b64.qmin = -1074 := by decide
theorem qx64 : FP.Core.b64.qmax = 971 := by decide
theorem p64 : FP.Core.b64.p = 53 := by decide
theorem grid {j : Nat} {e : Int} (hj : j < 2 ^ 53) (h1 : -1074 ≤ e) (h2 : e ≤ 971) : ∃ V, FP.Core.fits FP.Core.b64 V ∧ (∃ c q, V = .fin false c q) ∧ FP.Core.zmag FP.Core.b64 V = FP.Core.inUnits j e (-1074) := by
  obtain ⟨c', q', a1, a2⟩ := FP.Core.round_exact FP.Core.good_b64 false (c := j) (q := e) (by rw [p64]; exact hj) (by rw [qm64]; exact h1) (by rw [qx64]; exact h2)
  have hf := FP.Core.round_fits FP.Core.good_b64 (.fin false j e)
  rw [a1] at hf
  rw [qm64] at a2
  exact ⟨.fin false c' q', hf, ⟨_, _, rfl⟩, by show FP.Core.inUnits c' q' FP.Core.b64.qmin = _; rw [qm64]; exact a2⟩
theorem rr_le {z : UInt64} {A : Nat} {e e0 : Int} {V : FP.Core.Datum} (hz : FP.Core.val64 z = FP.Core.roundRatio FP.Core.b64 false A 1 e) (h0 : e0 ≤ -1074) (h0e : e0 ≤ e) (hV : FP.Core.fits FP.Core.b64 V) (hf : ∃ c q, V = .fin false c q) (h : FP.Core.inUnits A e e0 ≤ FP.Core.zmag FP.Core.b64 V * 2 ^ (-1074 - e0).toNat) : NF z ∧ Zd z ≤ FP.Core.zmag FP.Core.b64 V := by
  have hn : V ≠ .nan := by
    obtain ⟨c, q, rfl⟩ := hf
    exact FP.Core.Datum.noConfusion
  have h1 := FP.Core.zmag_roundRatio_le FP.Core.good_b64 (s := false) (A := A) (B := 1) (e := e) (e0 := e0) (V := V) (by decide) hV hn (by rw [qm64]; exact h0) h0e (by rw [qm64, Nat.mul_one]; exact h)
  rw [← hz] at h1
  refine ⟨?_, h1⟩
  rcases FP.Core.roundRatio_cases FP.Core.b64 false A 1 e with ⟨c, q, hR⟩ | hR
  · exact ⟨c, q, hz.trans hR⟩
  · exfalso
    obtain ⟨c, q, rfl⟩ := hf
    have h2 : FP.Core.zmag FP.Core.b64 (.fin false c q) < FP.Core.b64.tails * 2 ^ (FP.Core.b64.exps - 2) := FP.Core.zmag_lt_top FP.Core.good_b64 hV
    rw [hz, hR] at h1
    exact absurd (Nat.lt_of_le_of_lt h1 h2) (Nat.lt_irrefl _)
theorem rr_ge {z : UInt64} {A : Nat} {e e0 : Int} {V : FP.Core.Datum} (hz : FP.Core.val64 z = FP.Core.roundRatio FP.Core.b64 false A 1 e) (h0 : e0 ≤ -1074) (h0e : e0 ≤ e) (hV : FP.Core.fits FP.Core.b64 V) (h : FP.Core.zmag FP.Core.b64 V * 2 ^ (-1074 - e0).toNat ≤ FP.Core.inUnits A e e0) : FP.Core.zmag FP.Core.b64 V ≤ Zd z := by
  have h1 := FP.Core.zmag_roundRatio_ge FP.Core.good_b64 (s := false) (A := A) (B := 1) (e := e) (e0 := e0) (V := V) (by decide) hV (by rw [qm64]; exact h0) h0e (by rw [qm64, Nat.mul_one]; exact h)
  rw [← hz] at h1
  exact h1
theorem mulU {x y : UInt64} (hx : NF x) (hy : NF y) : ∃ (A : Nat) (e : Int), FP.Core.val64 (FP.dmul x y) = FP.Core.roundRatio FP.Core.b64 false A 1 e ∧ -2148 ≤ e ∧ FP.Core.inUnits A e (-2148) = Zd x * Zd y := by
  obtain ⟨c, q, hx⟩ := hx
  obtain ⟨d, r, hy⟩ := hy
  have fx := FP.Core.val64_fits x
  have fy := FP.Core.val64_fits y
  rw [hx] at fx
  rw [hy] at fy
  obtain ⟨a1, a2, a3⟩ := FP.Core.product_units fx fy
  rw [qm64] at a2 a3
  refine ⟨c * d, q + r, ?_, a2, ?_⟩
  · rw [show FP.dmul x y = FP.Core.dmul x y from rfl, FP.Core.val64_dmul, hx, hy, a1]; rfl
  · show _ = FP.Core.zmag FP.Core.b64 (FP.Core.val64 x) * FP.Core.zmag FP.Core.b64 (FP.Core.val64 y)
    rw [hx, hy]; exact a3
theorem one_p : (2 : Nat) ^ ((-1074 : Int) - -2148).toNat = FP.Core.one64 := rfl
theorem mul_le {x y : UInt64} (hx : NF x) (hy : NF y) {V : FP.Core.Datum} (hV : FP.Core.fits FP.Core.b64 V) (hf : ∃ c q, V = .fin false c q) (h : Zd x * Zd y ≤ FP.Core.zmag FP.Core.b64 V * FP.Core.one64) : NF (FP.dmul x y) ∧ Zd (FP.dmul x y) ≤ FP.Core.zmag FP.Core.b64 V := by
  obtain ⟨A, e, a1, a2, a3⟩ := mulU hx hy
  exact rr_le a1 (e0 := -2148) (by decide) a2 hV hf (by rw [a3, one_p]; exact h)
theorem mul_ge {x y : UInt64} (hx : NF x) (hy : NF y) {V : FP.Core.Datum} (hV : FP.Core.fits FP.Core.b64 V) (h : FP.Core.zmag FP.Core.b64 V * FP.Core.one64 ≤ Zd x * Zd y) : FP.Core.zmag FP.Core.b64 V ≤ Zd (FP.dmul x y) := by
  obtain ⟨A, e, a1, a2, a3⟩ := mulU hx hy
  exact rr_ge a1 (e0 := -2148) (by decide) a2 hV (by rw [a3, one_p]; exact h)
theorem NF_0 : NF 0 := NF_of (by decide)
theorem Zd_0 : Zd 0 = 0 := by rw [(NF_bits NF_0).2]; exact FP.Core.unitsOf_zero _
theorem addU {x y : UInt64} (hx : NF x) (hy : NF y) : ∃ (A : Nat) (e : Int), FP.Core.val64 (FP.dadd x y) = FP.Core.roundRatio FP.Core.b64 false A 1 e ∧ -1074 ≤ e ∧ FP.Core.inUnits A e (-1074) = Zd x + Zd y := by
  by_cases hz : Zd x + Zd y = 0
  · have e1 : x = 0 := NF_ext hx NF_0 (by rw [Zd_0]; omega)
    have e2 : y = 0 := NF_ext hy NF_0 (by rw [Zd_0]; omega)
    subst e1 e2
    refine ⟨0, -1074, by decide +kernel, by decide, ?_⟩
    rw [hz]; rfl
  obtain ⟨c, q, hx1⟩ := hx
  obtain ⟨d, r, hy1⟩ := hy
  have fx := FP.Core.val64_fits x
  have fy := FP.Core.val64_fits y
  rw [hx1] at fx
  rw [hy1] at fy
  obtain ⟨sg, n, e, a1, a2, a3⟩ := FP.Core.sum_units fx fy
  rw [qm64] at a2 a3
  rw [← hx1, ← hy1] at a3
  have zx : FP.Core.zval FP.Core.b64 (FP.Core.val64 x) = (Zd x : Int) := by
    unfold FP.Core.zval
    rw [show FP.Core.sgn (FP.Core.val64 x) = false by rw [hx1]; rfl]; rfl
  have zy : FP.Core.zval FP.Core.b64 (FP.Core.val64 y) = (Zd y : Int) := by
    unfold FP.Core.zval
    rw [show FP.Core.sgn (FP.Core.val64 y) = false by rw [hy1]; rfl]; rfl
  rw [zx, zy] at a3
  generalize Zd x = zx' at *
  generalize Zd y = zy' at *
  cases sg with
  | true =>
    exfalso
    have a4 : -((FP.Core.inUnits n e (-1074) : Nat) : Int) = (zx' : Int) + zy' := a3
    omega
  | false =>
    have a4 : ((FP.Core.inUnits n e (-1074) : Nat) : Int) = (zx' : Int) + zy' := a3
    refine ⟨n, e, ?_, a2, by omega⟩
    rw [show FP.dadd x y = FP.Core.dadd x y from rfl, FP.Core.val64_dadd, hx1, hy1, a1]; rfl
theorem one_q : (2 : Nat) ^ ((-1074 : Int) - -1074).toNat = 1 := rfl
theorem add_le {x y : UInt64} (hx : NF x) (hy : NF y) {V : FP.Core.Datum} (hV : FP.Core.fits FP.Core.b64 V) (hf : ∃ c q, V = .fin false c q) (h : Zd x + Zd y ≤ FP.Core.zmag FP.Core.b64 V) : NF (FP.dadd x y) ∧ Zd (FP.dadd x y) ≤ FP.Core.zmag FP.Core.b64 V := by
  obtain ⟨A, e, a1, a2, a3⟩ := addU hx hy
  exact rr_le a1 (e0 := -1074) (by decide) a2 hV hf (by rw [a3, one_q, Nat.mul_one]; exact h)
theorem add_ge {x y : UInt64} (hx : NF x) (hy : NF y) {V : FP.Core.Datum} (hV : FP.Core.fits FP.Core.b64 V) (h : FP.Core.zmag FP.Core.b64 V ≤ Zd x + Zd y) : FP.Core.zmag FP.Core.b64 V ≤ Zd (FP.dadd x y) := by
  obtain ⟨A, e, a1, a2, a3⟩ := addU hx hy
  exact rr_ge a1 (e0 := -1074) (by decide) a2 hV (by rw [a3, one_q, Nat.mul_one]; exact h)
-- the grid
def gr : Nat := 2 ^ 1024
theorem gr_one : gr * 2 ^ 50 = FP.Core.one64 := by unfold gr FP.Core.one64; rw [← Nat.pow_add]
theorem gV {u : Nat} (h : u < 2 ^ 53) : ∃ V, FP.Core.fits FP.Core.b64 V ∧ (∃ c q, V = .fin false c q) ∧ FP.Core.zmag FP.Core.b64 V = u * gr := by
  obtain ⟨V, a, b, c⟩ := grid (j := u) (e := -50) h (by decide) (by decide)
  refine ⟨V, a, b, c.trans ?_⟩
  unfold FP.Core.inUnits gr
  rw [show ((-50 : Int) - -1074).toNat = 1024 by decide]
def lo (k : Nat) : Nat := 2 ^ (1074 - k)
theorem lV {k : Nat} (h : k ≤ 200) : ∃ V, FP.Core.fits FP.Core.b64 V ∧ (∃ c q, V = .fin false c q) ∧ FP.Core.zmag FP.Core.b64 V = lo k := by
  obtain ⟨V, a, b, c⟩ := grid (j := 1) (e := -(k : Int)) (by decide) (by omega) (by omega)
  refine ⟨V, a, b, c.trans ?_⟩
  unfold FP.Core.inUnits lo
  rw [Nat.one_mul, show (-(k : Int) - -1074).toNat = 1074 - k by omega]
def Gr (x : UInt64) (u : Nat) : Prop := NF x ∧ Zd x ≤ u * gr
theorem Gr_mono {x : UInt64} {u v : Nat} (h : Gr x u) (hv : u ≤ v) : Gr x v := ⟨h.1, Nat.le_trans h.2 (Nat.mul_le_mul_right _ hv)⟩
theorem Gr_mul {x f : UInt64} {u a : Nat} (hx : Gr x u) (hf : Gr f a) (h : u * a / 2 ^ 50 + 1 < 2 ^ 53) : Gr (FP.dmul x f) (u * a / 2 ^ 50 + 1) := by
  obtain ⟨V, v1, v2, v3⟩ := gV h
  have := mul_le hx.1 hf.1 v1 v2 (by
    rw [v3, ← gr_one]
    calc Zd x * Zd f ≤ (u * gr) * (a * gr) := Nat.mul_le_mul hx.2 hf.2
      _ = (u * a) * (gr * gr) := Nat.mul_mul_mul_comm ..
      _ ≤ ((u * a / 2 ^ 50 + 1) * 2 ^ 50) * (gr * gr) := Nat.mul_le_mul_right _ (by generalize u * a = t; omega)
      _ = (u * a / 2 ^ 50 + 1) * gr * (gr * 2 ^ 50) := by generalize u * a / 2 ^ 50 + 1 = t; generalize 2 ^ 50 = d; generalize gr = g; ac_rfl)
  rw [v3] at this
  exact this
theorem Gr_add {x y : UInt64} {u v : Nat} (hx : Gr x u) (hy : Gr y v) (h : u + v < 2 ^ 53) : Gr (FP.dadd x y) (u + v) := by
  obtain ⟨V, v1, v2, v3⟩ := gV h
  have := add_le hx.1 hy.1 v1 v2 (by
    rw [v3, Nat.add_mul]
    exact Nat.add_le_add hx.2 hy.2)
  rw [v3] at this
  exact this
def Lw (x : UInt64) (k : Nat) : Prop := Zd x = 0 ∨ lo k ≤ Zd x
theorem lo_pos (k : Nat) : 0 < lo k := Nat.two_pow_pos _
theorem Lw_mul {x f : UInt64} {k : Nat} (nx : NF x) (nf : NF f) (hk : k ≤ 190) (hx : Lw x k) (hf : Lw f 7) : Lw (FP.dmul x f) (k + 7) := by
  by_cases hz : Zd x * Zd f = 0
  · left
    obtain ⟨V, v1, v2, v3⟩ := gV (u := 0) (by decide)
    have := (mul_le nx nf v1 v2 (by rw [hz]; exact Nat.zero_le _)).2
    rw [v3, Nat.zero_mul] at this
    omega
  · right
    obtain ⟨V, v1, v2, v3⟩ := lV (k := k + 7) (by omega)
    rw [← v3]
    refine mul_ge nx nf v1 ?_
    have h1 : lo k ≤ Zd x := hx.resolve_left (fun z => hz (by rw [z, Nat.zero_mul]))
    have h2 : lo 7 ≤ Zd f := hf.resolve_left (fun z => hz (by rw [z, Nat.mul_zero]))
    refine Nat.le_trans (Nat.le_of_eq ?_) (Nat.mul_le_mul h1 h2)
    rw [v3]
    unfold lo FP.Core.one64
    rw [← Nat.pow_add, ← Nat.pow_add]
    congr 1
    omega
theorem Lw_add {x y : UInt64} {k : Nat} (nx : NF x) (ny : NF y) (hk : k ≤ 190) (hx : Lw x k) (hy : Lw y k) : Lw (FP.dadd x y) k := by
  by_cases hz : Zd x + Zd y = 0
  · left
    obtain ⟨V, v1, v2, v3⟩ := gV (u := 0) (by decide)
    have := (add_le nx ny v1 v2 (by rw [hz]; exact Nat.zero_le _)).2
    rw [v3, Nat.zero_mul] at this
    omega
  · right
    obtain ⟨V, v1, v2, v3⟩ := lV (k := k) (by omega)
    rw [← v3]
    refine add_ge nx ny v1 ?_
    rw [v3]
    unfold Lw at hx hy
    omega
-- the factors
def clG (z : Nat) : Nat := (z + gr - 1) / gr
theorem gr_pos : 0 < gr := Nat.two_pow_pos _
theorem clG_le (z : Nat) : z ≤ clG z * gr := by
  unfold clG
  have h := Nat.div_add_mod (z + gr - 1) gr
  have h1 := Nat.mod_lt (z + gr - 1) gr_pos
  have h2 := gr_pos
  rw [Nat.mul_comm] at h
  generalize (z + gr - 1) / gr * gr = t at *
  generalize gr = g at *
  omega
def fcQ (k : Nat) : Bool := (pD k).toNat < 9218868437227405312 && (qD k).toNat < 9218868437227405312 && decide ((pD k).toNat = 0 ∨ 1016 * 2 ^ 52 ≤ (pD k).toNat) && decide ((qD k).toNat = 0 ∨ 1016 * 2 ^ 52 ≤ (qD k).toNat)
  && decide (clG (FP.Core.unitsOf FP.Core.b64 (pD k).toNat) ≤ 2 ^ 50) && decide (clG (FP.Core.unitsOf FP.Core.b64 (qD k).toNat) ≤ 2 ^ 50) && decide (clG (FP.Core.unitsOf FP.Core.b64 (pD k).toNat) + clG (FP.Core.unitsOf FP.Core.b64 (qD k).toNat) ≤ 2 ^ 50 + 2)
set_option maxRecDepth 100000 in
theorem fc_all : (List.range 101).all fcQ = true := by decide +kernel
theorem Lw_of {x : UInt64} (hx : NF x) (h : x.toNat = 0 ∨ 1016 * 2 ^ 52 ≤ x.toNat) : Lw x 7 := by
  unfold Lw
  rw [(NF_bits hx).2]
  rcases h with h | h
  · left; rw [h]; exact FP.Core.unitsOf_zero _
  · right
    refine Nat.le_trans (Nat.le_of_eq ?_) (FP.Core.unitsOf_le_iff.mpr h)
    have := FP.Core.unitsOf_start (f := FP.Core.b64) (K := 1016) (by decide)
    rw [FP.Core.tails_b64] at this
    rw [this, ← Nat.pow_add]; rfl
theorem fc_k {k : Nat} (h : k ≤ 100) : ∃ a b, Gr (pD k) a ∧ Gr (qD k) b ∧ a ≤ 2 ^ 50 ∧ b ≤ 2 ^ 50 ∧ a + b ≤ 2 ^ 50 + 2 ∧ Lw (pD k) 7 ∧ Lw (qD k) 7 := by
  have h1 := List.all_eq_true.mp fc_all k (List.mem_range.mpr (by omega))
  unfold fcQ at h1
  rw [Bool.and_eq_true, Bool.and_eq_true, Bool.and_eq_true, Bool.and_eq_true, Bool.and_eq_true, Bool.and_eq_true] at h1
  obtain ⟨⟨⟨⟨⟨⟨a1, a2⟩, a3⟩, a4⟩, a5⟩, a6⟩, a7⟩ := h1
  have np := NF_of (of_decide_eq_true a1)
  have nq := NF_of (of_decide_eq_true a2)
  exact ⟨_, _, ⟨np, by rw [(NF_bits np).2]; exact clG_le _⟩, ⟨nq, by rw [(NF_bits nq).2]; exact clG_le _⟩, of_decide_eq_true a5, of_decide_eq_true a6, of_decide_eq_true a7, Lw_of np (of_decide_eq_true a3), Lw_of nq (of_decide_eq_true a4)⟩
def uc (a b m : Nat) : Nat → Nat
  | 0 => 2 ^ 50
  | c + 1 => uc a b m c * (if tbF m c = true then a else b) / 2 ^ 50 + 1
theorem uc_step {u f : Nat} (h : f ≤ 2 ^ 50) : u * f / 2 ^ 50 ≤ u := by
  refine Nat.le_trans (Nat.div_le_div_right (Nat.mul_le_mul_left u h)) ?_
  rw [Nat.mul_div_cancel _ (Nat.two_pow_pos 50)]
  exact Nat.le_refl _
theorem uc_le {a b m : Nat} (ha : a ≤ 2 ^ 50) (hb : b ≤ 2 ^ 50) : ∀ c, uc a b m c ≤ 2 ^ 50 + c
  | 0 => Nat.le_refl _
  | c + 1 => by
    have h1 := uc_le (m := m) ha hb c
    have h2 := uc_step (u := uc a b m c) (f := if tbF m c = true then a else b) (by split <;> assumption)
    show uc a b m c * (if tbF m c = true then a else b) / 2 ^ 50 + 1 ≤ _
    omega
theorem NF_1 : NF FP.dconst1 := NF_of (by decide)
theorem Zd_1 : Zd FP.dconst1 = FP.Core.one64 := by
  show FP.Core.zmag FP.Core.b64 (FP.Core.val64 FP.Core.dconst1) = _
  rw [FP.Core.val64_dconst1]
  show FP.Core.inUnits (2 ^ 52) (-52) FP.Core.b64.qmin = _
  rw [qm64]
  unfold FP.Core.inUnits FP.Core.one64
  rw [show ((-52 : Int) - -1074).toNat = 1022 by decide, ← Nat.pow_add]
theorem ch_ok {x y : UInt64} {a b : Nat} (hx : Gr x a) (hy : Gr y b) (ha : a ≤ 2 ^ 50) (hb : b ≤ 2 ^ 50) (lx : Lw x 7) (ly : Lw y 7) (m : Nat) : ∀ c, c ≤ 12 → Gr (chD x y m c) (uc a b m c) ∧ Lw (chD x y m c) (7 * c)
  | 0, _ => ⟨⟨NF_1, by show Zd FP.dconst1 ≤ 2 ^ 50 * gr; rw [Zd_1, ← gr_one, Nat.mul_comm]; exact Nat.le_refl _⟩, .inr (by show _ ≤ Zd FP.dconst1; rw [Zd_1]; exact Nat.le_refl _)⟩
  | c + 1, hc => by
    obtain ⟨h1, h2⟩ := ch_ok hx hy ha hb lx ly m c (by omega)
    have h3 := uc_le (m := m) ha hb c
    show Gr (FP.dmul (chD x y m c) (if tbF m c = true then x else y)) (uc a b m c * (if tbF m c = true then a else b) / 2 ^ 50 + 1) ∧ Lw (FP.dmul (chD x y m c) (if tbF m c = true then x else y)) (7 * c + 7)
    by_cases ht : tbF m c = true
    · rw [if_pos ht, if_pos ht]
      exact ⟨Gr_mul h1 hx (by have := uc_step (u := uc a b m c) ha; omega), Lw_mul h1.1 hx.1 (by omega) h2 lx⟩
    · rw [if_neg ht, if_neg ht]
      exact ⟨Gr_mul h1 hy (by have := uc_step (u := uc a b m c) hb; omega), Lw_mul h1.1 hy.1 (by omega) h2 ly⟩
-- sums
def sU (f : Nat → Nat) : Nat → Nat
  | 0 => 0
  | n + 1 => sU f n + f n
theorem sU_add (f : Nat → Nat) (n : Nat) : ∀ k, sU f (n + k) = sU f n + sU (fun i => f (n + i)) k
  | 0 => rfl
  | k + 1 => by
    show sU f (n + k) + f (n + k) = sU f n + (sU (fun i => f (n + i)) k + f (n + k))
    rw [sU_add f n k, Nat.add_assoc]
theorem sU_mono (f : Nat → Nat) {n k : Nat} (h : n ≤ k) : sU f n ≤ sU f k := by
  obtain ⟨d, rfl⟩ := Nat.exists_eq_add_of_le h
  rw [sU_add]; exact Nat.le_add_right _ _
theorem sU_pair {f g t : Nat → Nat} : ∀ n, (∀ i, i < n → f i + g i ≤ t i + 4) → sU f n + sU g n ≤ sU t n + 4 * n
  | 0, _ => Nat.le_refl _
  | n + 1, h => by
    have h1 := sU_pair n (fun i hi => h i (by omega))
    have h2 := h n (by omega)
    show sU f n + f n + (sU g n + g n) ≤ sU t n + t n + 4 * (n + 1)
    omega
theorem uc_cong {a b m k : Nat} : ∀ c, (∀ i, i < c → tbF m i = tbF k i) → uc a b m c = uc a b k c
  | 0, _ => rfl
  | c + 1, h => by
    show uc a b m c * (if tbF m c = true then a else b) / 2 ^ 50 + 1 = uc a b k c * (if tbF k c = true then a else b) / 2 ^ 50 + 1
    rw [uc_cong c (fun i hi => h i (by omega)), h c (by omega)]
theorem uc_sum {a b : Nat} (ha : a ≤ 2 ^ 50) (hb : b ≤ 2 ^ 50) (hab : a + b ≤ 2 ^ 50 + 2) : ∀ C, C ≤ 12 → sU (fun m => uc a b m C) (2 ^ C) ≤ 2 ^ 50 + 4 * 2 ^ C
  | 0, _ => by show 0 + 2 ^ 50 ≤ _; omega
  | C + 1, hC => by
    have ih := uc_sum ha hb hab C (by omega)
    rw [show 2 ^ (C + 1) = 2 ^ C + 2 ^ C by rw [Nat.pow_succ, Nat.mul_two], sU_add]
    have := sU_pair (f := fun m => uc a b m (C + 1)) (g := fun i => uc a b (2 ^ C + i) (C + 1)) (t := fun m => uc a b m C) (2 ^ C) (by
      intro i hi
      show (uc a b i C * (if tbF i C = true then a else b) / 2 ^ 50 + 1) + (uc a b (2 ^ C + i) C * (if tbF (2 ^ C + i) C = true then a else b) / 2 ^ 50 + 1) ≤ uc a b i C + 4
      rw [if_neg (by rw [tb_hi hi]; decide), if_pos (tb_top hi), uc_cong (m := 2 ^ C + i) (k := i) C (fun j hj => tb_sum hi hj)]
      have hu := uc_le (m := i) ha hb C
      have hm := Nat.mul_le_mul_left (uc a b i C) hab
      rw [Nat.mul_add, Nat.mul_add] at hm
      generalize uc a b i C = u at *
      generalize u * a = X at *
      generalize u * b = Y at *
      omega)
    omega
theorem pr_ok {G : GS} {k : Nat} (h : k ≤ 100) (hc : G 4 0 ≤ 12) : ∃ a b, ∀ m, m ≤ 2 ^ (G 4 0) → Gr (prF G k m) (sU (fun i => uc a b i (G 4 0)) m) ∧ sU (fun i => uc a b i (G 4 0)) m ≤ 2 ^ 50 + 16384 ∧ Lw (prF G k m) 84 := by
  obtain ⟨a, b, ga, gb, ha, hb, hab, la, lb⟩ := fc_k h
  refine ⟨a, b, ?_⟩
  have hs := uc_sum ha hb hab (G 4 0) hc
  have hp : 2 ^ (G 4 0) ≤ 4096 := Nat.pow_le_pow_right (by decide) hc
  have hS : ∀ m, m ≤ 2 ^ (G 4 0) → sU (fun i => uc a b i (G 4 0)) m ≤ 2 ^ 50 + 16384 := fun m hm => by
    have := sU_mono (fun i => uc a b i (G 4 0)) hm
    omega
  intro m
  induction m with
  | zero => intro _; exact ⟨⟨NF_0, by show Zd 0 ≤ _; rw [Zd_0]; exact Nat.zero_le _⟩, hS 0 (Nat.zero_le _), .inl Zd_0⟩
  | succ m ih =>
    intro hm
    obtain ⟨h1, h2, h3⟩ := ih (by omega)
    have h4 := hS (m + 1) hm
    obtain ⟨c1, c2⟩ := ch_ok ga gb ha hb la lb m (G 4 0) hc
    have c3 : Lw (chD (pD k) (qD k) m (G 4 0)) 84 := c2.elim .inl (fun z => .inr (Nat.le_trans (Nat.pow_le_pow_right (by decide) (by omega)) z))
    by_cases ht : cmp G (tbF m) = true
    · rw [← prF_t ht]
      exact ⟨Gr_add h1 c1 (Nat.lt_of_le_of_lt h4 (by decide)), h4, Lw_add h1.1 c1.1 (by omega) h3 c3⟩
    · rw [prF_f ht]
      exact ⟨Gr_mono h1 (Nat.le_add_right _ _), h4, h3⟩
end FLT
