/-! ===== part 29: the doubles ===== -/
section VL2
variable {p : Program} {l : Launch} {e : Env} {R : Room} {s : State} {m : MethodId} {args : Array Value} {below : List Frame} {meth : Method} {c : Code} {nL cells slots : Nat} {Q : State → Prop} {I : Heap → List Loc → Prop} {cc : ByteArray} {Ts : List Cond} {own : String} {pc : Nat} {lv : List (Nat × Value)} {st : List Value}
theorem x_ifL_le {a b : Nat} {off : Int} {tgt : Nat} (F : CallFix p m c cc nL s args Ts own) (hdg : decode cc pc = .ok (.ifCond .le off, 3)) (ht : (pc : Int) + off = (tgt : Int)) (ha : a < 2 ^ 63) (hb : b < 2 ^ 63) (kt : a ≤ b → V p l e R s m args below meth c nL cells slots Q I tgt lv st) (kf : b < a → V p l e R s m args below meth c nL cells slots Q I (pc + 3) lv st) : V p l e R s m args below meth c nL cells slots Q I pc lv (.int (lg_cmp (lN a) (lN b)) :: st) :=
  x_if_le F hdg ht (fun h => kt ((pk_lLE ha hb).mp ((lg_cmp_le _ _).mp h))) (fun h => kf (Nat.lt_of_not_le (fun q => h ((lg_cmp_le _ _).mpr ((pk_lLE ha hb).mpr q)))))
end VL2
def dB (E T : Nat) : UInt64 := UInt64.ofNat (E * 2 ^ 52 + T)
abbrev dc0 (x : UInt64) : Int32 := Op.cmpValue (FP.dcmp x FP.dconst0) .g
abbrev dc1 (x : UInt64) : Int32 := Op.cmpValue (FP.dcmp x FP.dconst1) .g
theorem fl_p {k : Nat} (h : k ≤ 100) : vf_n64 (pD k) := sorry
theorem fl_q {k : Nat} (h : k ≤ 100) : vf_n64 (qD k) := sorry
theorem fl_ch {k : Nat} (h : k ≤ 100) (m : Nat) {c : Nat} (hc : c ≤ 12) : vf_n64 (chD (pD k) (qD k) m c) := sorry
theorem fl_pr {G : GS} {k : Nat} (h : k ≤ 100) (hc : G 4 0 ≤ 12) {m : Nat} (hm : m ≤ 2 ^ (G 4 0)) : vf_n64 (prF G k m) := sorry
theorem fl_good {G : GS} {k : Nat} (h : k ≤ 100) (hc : G 4 0 ≤ 12) : gD (prF G k (2 ^ (G 4 0))) := sorry
theorem gD_eq {x : UInt64} (h : gD x) : Op.cmpValue (FP.dcmp x x) .l = 0 := sorry
theorem gD_z {x : UInt64} (h : gD x) (hc : ¬ 0 < dc0 x) : x = FP.dconst0 := sorry
theorem gD_p {x : UInt64} (h : gD x) (hc : 0 < dc0 x) : ∃ E T : Nat, 900 ≤ E ∧ E ≤ 1023 ∧ T < 2 ^ 52 ∧ x = dB E T := sorry
theorem dB_ge {E T : Nat} (h1 : 900 ≤ E) (h2 : E ≤ 1023) (hT : T < 2 ^ 52) (hc : 0 ≤ dc1 (dB E T)) : E = 1023 := sorry
theorem dB_lt {E T : Nat} (h1 : 900 ≤ E) (h2 : E ≤ 1023) (hT : T < 2 ^ 52) (hc : ¬ 0 ≤ dc1 (dB E T)) : E < 1023 := sorry
theorem dB_mul {E T : Nat} (h1 : 900 ≤ E) (h2 : E < 1023) (hT : T < 2 ^ 52) : FP.dmul (dB E T) 4611686018427387904 = dB (E + 1) T := sorry
theorem dB_n {E T : Nat} (h2 : E ≤ 1023) (hT : T < 2 ^ 52) : vf_n64 (dB E T) := sorry
theorem dB_sub {T : Nat} (hT : T < 2 ^ 52) : vf_n64 (FP.dsub (dB 1023 T) FP.dconst1) := sorry
theorem dB_m52 {T : Nat} (hT : T < 2 ^ 52) : vf_n64 (FP.dmul (FP.dsub (dB 1023 T) FP.dconst1) 4841369599423283200) := sorry
theorem dB_d2l {T : Nat} (hT : T < 2 ^ 52) : FP.d2l (FP.dmul (FP.dsub (dB 1023 T) FP.dconst1) 4841369599423283200) = lN T := sorry
theorem dB_bits {E T : Nat} (h2 : E ≤ 1023) (hT : T < 2 ^ 52) : lN (E * 2 ^ 52 ||| T) = (dB E T).toInt64 := by
  rw [Nat.mul_comm, ← Nat.two_pow_add_eq_or_of_lt hT, Nat.mul_comm]
  apply wb_inj
  rw [wb_tb]
  rfl
