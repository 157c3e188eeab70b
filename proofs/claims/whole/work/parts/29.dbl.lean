/-! ===== part 29: the doubles ===== -/
section VL2
variable {p : Program} {l : Launch} {e : Env} {R : Room} {s : State} {m : MethodId} {args : Array Value} {below : List Frame} {meth : Method} {c : Code} {nL cells slots : Nat} {Q : State → Prop} {I : Heap → List Loc → Prop} {cc : ByteArray} {Ts : List Cond} {own : String} {pc : Nat} {lv : List (Nat × Value)} {st : List Value}
theorem x_ifL_le {a b : Nat} {off : Int} {tgt : Nat} (F : CallFix p m c cc nL s args Ts own) (hdg : decode cc pc = .ok (.ifCond .le off, 3)) (ht : (pc : Int) + off = (tgt : Int)) (ha : a < 2 ^ 63) (hb : b < 2 ^ 63) (kt : a ≤ b → V p l e R s m args below meth c nL cells slots Q I tgt lv st) (kf : b < a → V p l e R s m args below meth c nL cells slots Q I (pc + 3) lv st) : V p l e R s m args below meth c nL cells slots Q I pc lv (.int (lg_cmp (lN a) (lN b)) :: st) :=
  x_if_le F hdg ht (fun h => kt ((pk_lLE ha hb).mp ((lg_cmp_le _ _).mp h))) (fun h => kf (Nat.lt_of_not_le (fun q => h ((lg_cmp_le _ _).mpr ((pk_lLE ha hb).mpr q)))))
end VL2
def dB (E T : Nat) : UInt64 := UInt64.ofNat (E * 2 ^ 52 + T)
abbrev dc0 (x : UInt64) : Int32 := Op.cmpValue (FP.dcmp x FP.dconst0) .g
abbrev dc1 (x : UInt64) : Int32 := Op.cmpValue (FP.dcmp x FP.dconst1) .g
theorem dB_nat {E T : Nat} (h2 : E ≤ 2046) (hT : T < 2 ^ 52) : (dB E T).toNat = E * 2 ^ 52 + T := by
  unfold dB
  rw [UInt64.toNat_ofNat', Nat.mod_eq_of_lt (by omega)]
theorem dB_NF {E T : Nat} (h2 : E ≤ 2046) (hT : T < 2 ^ 52) : NF (dB E T) := NF_of (by rw [dB_nat h2 hT]; omega)
theorem dB_Z {E T : Nat} (h1 : 1 ≤ E) (h2 : E ≤ 2046) (hT : T < 2 ^ 52) : Zd (dB E T) = (2 ^ 52 + T) * 2 ^ (E - 1) := by
  rw [(NF_bits (dB_NF h2 hT)).2, dB_nat h2 hT]
  unfold FP.Core.unitsOf
  rw [FP.Core.tails_b64, if_neg (by omega), show (E * 2 ^ 52 + T) % 2 ^ 52 = T by omega, show (E * 2 ^ 52 + T) / 2 ^ 52 = E by omega]
theorem fl_p {k : Nat} (h : k ≤ 100) : vf_n64 (pD k) := by
  obtain ⟨a, b, ga, gb, _⟩ := fc_k h
  exact NF_n ga.1
theorem fl_q {k : Nat} (h : k ≤ 100) : vf_n64 (qD k) := by
  obtain ⟨a, b, ga, gb, _⟩ := fc_k h
  exact NF_n gb.1
theorem fl_ch {k : Nat} (h : k ≤ 100) (m : Nat) {c : Nat} (hc : c ≤ 12) : vf_n64 (chD (pD k) (qD k) m c) := by
  obtain ⟨a, b, ga, gb, ha, hb, hab, la, lb⟩ := fc_k h
  exact NF_n (ch_ok ga gb ha hb la lb m c hc).1.1
theorem fl_pr {G : GS} {k : Nat} (h : k ≤ 100) (hc : G 4 0 ≤ 12) {m : Nat} (hm : m ≤ 2 ^ (G 4 0)) : vf_n64 (prF G k m) := by
  obtain ⟨a, b, hp⟩ := pr_ok (G := G) h hc
  exact NF_n (hp m hm).1.1
theorem us {K : Nat} (h : 1 ≤ K) : FP.Core.unitsOf FP.Core.b64 (K * 2 ^ 52) = 2 ^ (52 + (K - 1)) := by
  have := FP.Core.unitsOf_start (f := FP.Core.b64) (K := K) h
  rw [FP.Core.tails_b64] at this
  rw [this, ← Nat.pow_add]
theorem fl_good {G : GS} {k : Nat} (h : k ≤ 100) (hc : G 4 0 ≤ 12) : gD (prF G k (2 ^ (G 4 0))) := by
  obtain ⟨a, b, hp⟩ := pr_ok (G := G) h hc
  obtain ⟨h1, h2, h3⟩ := hp _ (Nat.le_refl _)
  generalize prF G k (2 ^ (G 4 0)) = x at *
  have hu := Nat.le_trans h1.2 (Nat.mul_le_mul_right gr h2)
  obtain ⟨b1, b2⟩ := NF_bits h1.1
  rcases h3 with h3 | h3
  · left; exact NF_ext h1.1 NF_0 (h3.trans Zd_0.symm)
  · right
    have c1 : 939 * 2 ^ 52 ≤ x.toNat := by
      refine (FP.Core.unitsOf_le_iff (f := FP.Core.b64)).mp ?_
      rw [us (by decide), ← b2]; exact h3
    have c2 : x.toNat < 1024 * 2 ^ 52 := by
      refine (FP.Core.unitsOf_lt_iff (f := FP.Core.b64)).mp ?_
      rw [us (by decide), ← b2]
      refine Nat.lt_of_le_of_lt hu ?_
      rw [show 52 + (1024 - 1) = 51 + 1024 from rfl, Nat.pow_add, show (2 : Nat) ^ 1024 = gr by unfold gr; rfl]
      exact Nat.mul_lt_mul_of_pos_right (by decide) gr_pos
    exact ⟨x.toNat / 2 ^ 52, x.toNat % 2 ^ 52, by omega, by omega, Nat.mod_lt _ (by decide), by omega⟩
theorem gD_NF {x : UInt64} (h : gD x) : NF x := by
  rcases h with h | ⟨E, T, h1, h2, h3, h4⟩
  · rw [h]; exact NF_0
  · exact NF_of (by omega)
theorem dk_N {x : UInt64} (h : NF x) : FP.Core.dkey x = (x.toNat : Int) := by
  have := (NF_bits h).1
  unfold FP.Core.dkey
  rw [if_neg (by omega)]
theorem dcmp_N {x y : UInt64} (hx : NF x) (hy : NF y) : FP.dcmp x y = some (compare (x.toNat : Int) (y.toNat : Int)) := by
  rw [show FP.dcmp x y = FP.Core.dcmp x y from rfl, FP.Core.dcmp_key (NF_nan hx) (NF_nan hy), dk_N hx, dk_N hy]
theorem gD_eq {x : UInt64} (h : gD x) : Op.cmpValue (FP.dcmp x x) .l = 0 := by
  rw [dcmp_N (gD_NF h) (gD_NF h), (FP.Core.compare_eq_iff _ _).mpr rfl]; rfl
theorem gD_z {x : UInt64} (h : gD x) (hc : ¬ 0 < dc0 x) : x = FP.dconst0 := by
  rcases h with h | h
  · exact h
  · exfalso
    apply hc
    obtain ⟨E, T, h1, h2, h3, h4⟩ := h
    unfold dc0
    rw [dcmp_N (x := x) (y := FP.dconst0) (gD_NF (.inr ⟨E, T, h1, h2, h3, h4⟩)) NF_0, (FP.Core.compare_gt_iff _ _).mpr (by rw [h4, show FP.dconst0.toNat = 0 from rfl]; omega)]
    decide
theorem gD_p {x : UInt64} (h : gD x) (hc : 0 < dc0 x) : ∃ E T : Nat, 900 ≤ E ∧ E ≤ 1023 ∧ T < 2 ^ 52 ∧ x = dB E T := by
  rcases h with h | ⟨E, T, h1, h2, h3, h4⟩
  · exfalso; rw [h] at hc; revert hc; decide +kernel
  · exact ⟨E, T, h1, h2, h3, UInt64.toNat_inj.mp (h4.trans (dB_nat (by omega) h3).symm)⟩
theorem one_nat : FP.dconst1.toNat = 1023 * 2 ^ 52 := by decide
theorem dB_ge {E T : Nat} (h1 : 900 ≤ E) (h2 : E ≤ 1023) (hT : T < 2 ^ 52) (hc : 0 ≤ dc1 (dB E T)) : E = 1023 := by
  refine Nat.le_antisymm h2 (Nat.le_of_not_lt fun hlt => ?_)
  unfold dc1 at hc
  rw [dcmp_N (dB_NF (by omega) hT) NF_1, (FP.Core.compare_lt_iff _ _).mpr (by rw [one_nat, dB_nat (by omega) hT]; omega)] at hc
  revert hc; decide
theorem dB_lt {E T : Nat} (h1 : 900 ≤ E) (h2 : E ≤ 1023) (hT : T < 2 ^ 52) (hc : ¬ 0 ≤ dc1 (dB E T)) : E < 1023 := by
  refine Nat.lt_of_not_le fun hlt => hc ?_
  obtain rfl : E = 1023 := by omega
  unfold dc1
  rw [dcmp_N (dB_NF (by omega) hT) NF_1]
  by_cases h0 : T = 0
  · rw [(FP.Core.compare_eq_iff _ _).mpr (by rw [one_nat, dB_nat (by omega) hT]; omega)]; decide
  · rw [(FP.Core.compare_gt_iff _ _).mpr (by rw [one_nat, dB_nat (by omega) hT]; omega)]; decide
theorem dB_mul {E T : Nat} (h1 : 900 ≤ E) (h2 : E < 1023) (hT : T < 2 ^ 52) : FP.dmul (dB E T) 4611686018427387904 = dB (E + 1) T := by
  rw [show (4611686018427387904 : UInt64) = dB 1024 0 from by decide]
  have nx := dB_NF (E := E) (by omega) hT
  have ny := dB_NF (E := 1024) (T := 0) (by decide) (by decide)
  have nz := dB_NF (E := E + 1) (by omega) hT
  have hz : Zd (dB E T) * Zd (dB 1024 0) = Zd (dB (E + 1) T) * FP.Core.one64 := by
    rw [dB_Z (by omega) (by omega) hT, dB_Z (by omega) (by omega) hT, dB_Z (by decide) (by decide) (by decide)]
    unfold FP.Core.one64
    rw [Nat.add_zero, Nat.mul_assoc, Nat.mul_assoc, ← Nat.pow_add, ← Nat.pow_add, ← Nat.pow_add]
    congr 2
    omega
  have a := mul_le nx ny (FP.Core.val64_fits (dB (E + 1) T)) nz (Nat.le_of_eq hz)
  have b := mul_ge nx ny (FP.Core.val64_fits (dB (E + 1) T)) (Nat.le_of_eq hz.symm)
  exact NF_ext a.1 nz (Nat.le_antisymm a.2 b)
theorem dB_n {E T : Nat} (h2 : E ≤ 1023) (hT : T < 2 ^ 52) : vf_n64 (dB E T) := NF_n (dB_NF (by omega) hT)
def h22 : Nat := 2 ^ 1022
theorem tV {T : Nat} (hT : T < 2 ^ 52) : ∃ V, FP.Core.fits FP.Core.b64 V ∧ (∃ c q, V = .fin false c q) ∧ FP.Core.zmag FP.Core.b64 V = T * h22 := by
  obtain ⟨V, a, b, c⟩ := grid (j := T) (e := -52) (by omega) (by decide) (by decide)
  refine ⟨V, a, b, c.trans ?_⟩
  unfold FP.Core.inUnits h22
  rw [show ((-52 : Int) - -1074).toNat = 1022 by decide]
theorem oV {T : Nat} (hT : T < 2 ^ 52) : ∃ V, FP.Core.fits FP.Core.b64 V ∧ (∃ c q, V = .fin false c q) ∧ FP.Core.zmag FP.Core.b64 V = T * FP.Core.one64 := by
  obtain ⟨V, a, b, c⟩ := grid (j := T) (e := 0) (by omega) (by decide) (by decide)
  refine ⟨V, a, b, c.trans ?_⟩
  unfold FP.Core.inUnits FP.Core.one64
  rw [show ((0 : Int) - -1074).toNat = 1074 by decide]
theorem dB_subZ {T : Nat} (hT : T < 2 ^ 52) : NF (FP.dsub (dB 1023 T) FP.dconst1) ∧ Zd (FP.dsub (dB 1023 T) FP.dconst1) = T * h22 := by
  by_cases h0 : T = 0
  · subst h0
    have : FP.dsub (dB 1023 0) FP.dconst1 = 0 := by decide +kernel
    rw [this, Nat.zero_mul]
    exact ⟨NF_0, Zd_0⟩
  have hZ := dB_Z (E := 1023) (by decide) (by decide) hT
  obtain ⟨c, q, hx1⟩ := dB_NF (E := 1023) (by decide) hT
  obtain ⟨d, r, hy1⟩ := NF_1
  have fx := FP.Core.val64_fits (dB 1023 T)
  have fy := FP.Core.negate_fits (FP.Core.val64_fits FP.dconst1)
  have z1 := Zd_1
  unfold Zd at hZ z1
  rw [hx1] at fx hZ
  rw [hy1] at fy z1
  obtain ⟨sg, n, e, a1, a2, a3⟩ := FP.Core.sum_units fx (show FP.Core.fits FP.Core.b64 (.fin true d r) from fy)
  rw [qm64] at a2 a3
  have a4 : FP.Core.signed sg (FP.Core.inUnits n e (-1074)) = ((FP.Core.zmag FP.Core.b64 (.fin false c q) : Nat) : Int) + -((FP.Core.zmag FP.Core.b64 (.fin false d r) : Nat) : Int) := a3
  rw [hZ, z1, show (1023 - 1) = 1022 from rfl, show (2 : Nat) ^ 1022 = h22 from rfl, show FP.Core.one64 = 2 ^ 52 * h22 from by unfold FP.Core.one64 h22; rw [← Nat.pow_add], Nat.add_mul] at a4
  have hp : 0 < T * h22 := Nat.mul_pos (by omega) (Nat.two_pow_pos _)
  obtain ⟨V, v1, v2, v3⟩ := tV hT
  have hv : FP.Core.val64 (FP.dsub (dB 1023 T) FP.dconst1) = FP.Core.round FP.Core.b64 (.fin sg n e) := by
    rw [show FP.dsub (dB 1023 T) FP.dconst1 = FP.Core.dsub (dB 1023 T) FP.dconst1 from rfl, FP.Core.val64_dsub, hx1, hy1, ← a1]; rfl
  generalize T * h22 = t at *
  generalize 2 ^ 52 * h22 = o at *
  cases sg with
  | true =>
    exfalso
    have a5 : -((FP.Core.inUnits n e (-1074) : Nat) : Int) = ((o + t : Nat) : Int) + -(o : Int) := a4
    omega
  | false =>
    have a5 : ((FP.Core.inUnits n e (-1074) : Nat) : Int) = ((o + t : Nat) : Int) + -(o : Int) := a4
    have a6 : FP.Core.inUnits n e (-1074) = t := by omega
    have u1 := rr_le (A := n) (e := e) hv (e0 := -1074) (by decide) a2 v1 v2 (by rw [a6, one_q, v3]; omega)
    have u2 := rr_ge (A := n) (e := e) hv (e0 := -1074) (by decide) a2 v1 (by rw [a6, one_q, v3]; omega)
    rw [v3] at u1 u2
    exact ⟨u1.1, Nat.le_antisymm u1.2 u2⟩
theorem dB_mulZ {T : Nat} (hT : T < 2 ^ 52) : NF (FP.dmul (FP.dsub (dB 1023 T) FP.dconst1) 4841369599423283200) ∧ Zd (FP.dmul (FP.dsub (dB 1023 T) FP.dconst1) 4841369599423283200) = T * FP.Core.one64 := by
  rw [show (4841369599423283200 : UInt64) = dB 1075 0 from by decide]
  obtain ⟨nx, zx⟩ := dB_subZ hT
  have ny := dB_NF (E := 1075) (T := 0) (by decide) (by decide)
  obtain ⟨V, v1, v2, v3⟩ := oV hT
  have hz : Zd (FP.dsub (dB 1023 T) FP.dconst1) * Zd (dB 1075 0) = FP.Core.zmag FP.Core.b64 V * FP.Core.one64 := by
    rw [zx, dB_Z (by decide) (by decide) (by decide), v3]
    unfold FP.Core.one64 h22
    rw [Nat.add_zero, Nat.mul_assoc, Nat.mul_assoc, ← Nat.pow_add, ← Nat.pow_add, ← Nat.pow_add]
  have a := mul_le nx ny v1 v2 (Nat.le_of_eq hz)
  have b := mul_ge nx ny v1 (Nat.le_of_eq hz.symm)
  rw [v3] at a b
  exact ⟨a.1, Nat.le_antisymm a.2 b⟩
theorem dB_sub {T : Nat} (hT : T < 2 ^ 52) : vf_n64 (FP.dsub (dB 1023 T) FP.dconst1) := NF_n (dB_subZ hT).1
theorem dB_m52 {T : Nat} (hT : T < 2 ^ 52) : vf_n64 (FP.dmul (FP.dsub (dB 1023 T) FP.dconst1) 4841369599423283200) := NF_n (dB_mulZ hT).1
theorem dB_d2l {T : Nat} (hT : T < 2 ^ 52) : FP.d2l (FP.dmul (FP.dsub (dB 1023 T) FP.dconst1) 4841369599423283200) = lN T := by
  obtain ⟨n1, z1⟩ := dB_mulZ hT
  have h := FP.Core.d2l_val (NF_nan n1)
  obtain ⟨c, q, h1⟩ := n1
  rw [show FP.Core.sgn (FP.Core.val64 (FP.dmul (FP.dsub (dB 1023 T) FP.dconst1) 4841369599423283200)) = false by rw [h1]; rfl] at h
  unfold Zd at z1
  rw [z1, Nat.mul_div_cancel _ FP.Core.one64_pos] at h
  refine Int64.toInt.inj ?_
  refine h.trans ?_
  show max (-2 ^ 63) (min (2 ^ 63 - 1) (T : Int)) = _
  rw [show (lN T).toInt = (T : Int) from lg_ofNat_toInt (by omega)]
  omega
theorem dB_bits {E T : Nat} (h2 : E ≤ 1023) (hT : T < 2 ^ 52) : lN (E * 2 ^ 52 ||| T) = (dB E T).toInt64 := by
  rw [Nat.mul_comm, ← Nat.two_pow_add_eq_or_of_lt hT, Nat.mul_comm]
  apply wb_inj
  rw [wb_tb]
  rfl
