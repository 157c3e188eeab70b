/-! ===== part 04: numbers (wb_ and nx_ rows begin as the kit's BITS family) ===== -/
theorem nx_and (a b : Nat) : nI a &&& nI b = nI (a &&& b) := by
  apply Int32.toBitVec_inj.1
  show BitVec.ofNat 32 a &&& BitVec.ofNat 32 b = BitVec.ofNat 32 (a &&& b)
  apply BitVec.eq_of_getLsbD_eq
  intro i hi
  simp [hi]
theorem nx_or (a b : Nat) : nI a ||| nI b = nI (a ||| b) := by
  apply Int32.toBitVec_inj.1
  show BitVec.ofNat 32 a ||| BitVec.ofNat 32 b = BitVec.ofNat 32 (a ||| b)
  apply BitVec.eq_of_getLsbD_eq
  intro i hi
  simp [hi]
theorem nx_xor (a b : Nat) : nI a ^^^ nI b = nI (a ^^^ b) := by
  apply Int32.toBitVec_inj.1
  show BitVec.ofNat 32 a ^^^ BitVec.ofNat 32 b = BitVec.ofNat 32 (a ^^^ b)
  apply BitVec.eq_of_getLsbD_eq
  intro i hi
  simp [hi]
theorem nx_sl : ∀ n, n < 32 → ((nI n &&& 31).toBitVec.smod 32).toNat = n := by decide +kernel
theorem nx_shl {a k : Nat} (hk : k < 32) (h : a * 2 ^ k < 2 ^ 32) : nI a <<< (nI k &&& 31) = nI (a * 2 ^ k) := pk_shlN _ k (nx_sl k hk) h
theorem nx_shr {a k : Nat} (ha : a < 2 ^ 31) (hk : k < 32) : nI a >>> (nI k &&& 31) = nI (a / 2 ^ k) := pk_shrN ha _ k (nx_sl k hk)
theorem wb_tb (n : Nat) : (lN n).toBitVec = BitVec.ofNat 64 n := rfl
theorem wb_inj {a b : Int64} (h : a.toBitVec = b.toBitVec) : a = b := Int64.toBitVec_inj.mp h
theorem wb_tn {n : Nat} (h : n < 2 ^ 64) : (lN n).toBitVec.toNat = n := by rw [wb_tb, BitVec.toNat_ofNat, Nat.mod_eq_of_lt h]
theorem wb_c : ∀ k, k < 64 → ((nI k).toInt64 &&& 63) = lN k := by decide +kernel
theorem wb_cu : ∀ k, k < 64 → ((nI k).toInt64.toUInt64 &&& Int64.toUInt64 63) = UInt64.ofNat k := by decide +kernel
theorem wb_sm : ∀ k, k < 64 → (BitVec.ofNat 64 k).smod 64 = BitVec.ofNat 64 k := by decide +kernel
theorem wb_mod (n : Nat) : lN n = lN (n % 2 ^ 64) := wb_inj (by rw [wb_tb, wb_tb]; apply BitVec.eq_of_toNat_eq; rw [BitVec.toNat_ofNat, BitVec.toNat_ofNat, Nat.mod_mod])
theorem wb_shr {n k : Nat} (hn : n < 2 ^ 64) (hk : k < 64) : ((lN n).toUInt64 >>> ((nI k).toInt64.toUInt64 &&& Int64.toUInt64 63)).toInt64 = lN (n / 2 ^ k) := by
  rw [wb_cu k hk]
  apply wb_inj
  apply BitVec.eq_of_toNat_eq
  show ((lN n).toUInt64 >>> UInt64.ofNat k).toNat = (BitVec.ofNat 64 _).toNat
  have h1 : (UInt64.ofNat k).toNat = k := by
    show (BitVec.ofNat 64 k).toNat = k
    rw [BitVec.toNat_ofNat, Nat.mod_eq_of_lt (by omega)]
  have h2 : (lN n).toUInt64.toNat = n := wb_tn hn
  rw [UInt64.toNat_shiftRight, h1, h2, Nat.mod_eq_of_lt hk, Nat.shiftRight_eq_div_pow, BitVec.toNat_ofNat, Nat.mod_eq_of_lt (Nat.lt_of_le_of_lt (Nat.div_le_self _ _) hn)]
theorem wb_shl (n : Nat) {k : Nat} (hk : k < 64) : lN n <<< ((nI k).toInt64 &&& 63) = lN (n * 2 ^ k) := by
  rw [wb_c k hk]
  apply wb_inj
  rw [Int64.toBitVec_shiftLeft, wb_tb, wb_tb, wb_tb, wb_sm k hk]
  apply BitVec.eq_of_toNat_eq
  rw [BitVec.shiftLeft_eq', BitVec.toNat_shiftLeft, BitVec.toNat_ofNat, BitVec.toNat_ofNat, BitVec.toNat_ofNat, Nat.mod_eq_of_lt (show k < 2 ^ 64 by omega), Nat.shiftLeft_eq, Nat.mul_mod, Nat.mod_mod, ← Nat.mul_mod]
theorem wb_and (a b : Nat) : lN a &&& lN b = lN (a &&& b) := by
  apply wb_inj
  rw [Int64.toBitVec_and, wb_tb, wb_tb, wb_tb]
  apply BitVec.eq_of_getLsbD_eq
  intro i hi
  simp [hi]
theorem wb_or (a b : Nat) : lN a ||| lN b = lN (a ||| b) := by
  apply wb_inj
  rw [Int64.toBitVec_or, wb_tb, wb_tb, wb_tb]
  apply BitVec.eq_of_getLsbD_eq
  intro i hi
  simp [hi]
theorem wb_eq {a b : Nat} (ha : a < 2 ^ 64) (hb : b < 2 ^ 64) : lN a = lN b ↔ a = b := by
  constructor
  · intro h
    have := congrArg (fun z : Int64 => z.toBitVec.toNat) h
    simpa [wb_tn ha, wb_tn hb] using this
  · intro h
    rw [h]
/-- iinc by a written number -/
theorem nx_inc {n : Int} {b : Nat} (a : Nat) (hb : Int32.ofInt n = nI b) : nI a + Int32.ofInt n = nI (a + b) := by rw [hb, nI_add]
theorem nx_dec {n : Int} {b a : Nat} (hb : Int32.ofInt n = -nI b) (h : b ≤ a) : nI a + Int32.ofInt n = nI (a - b) := by
  rw [hb, ← pk_sub h, Int32.sub_eq_add_neg]
/-- 0 or 1, for a proposition -/
def bN (P : Prop) [Decidable P] : Nat := if P then 1 else 0
theorem bN_t {P : Prop} [Decidable P] (h : P) : bN P = 1 := if_pos h
theorem bN_f {P : Prop} [Decidable P] (h : ¬ P) : bN P = 0 := if_neg h
theorem bN_lt (P : Prop) [Decidable P] : bN P < 2 := by unfold bN; split <;> omega
theorem bN_c {P R : Prop} [Decidable P] [Decidable R] (h : P ↔ R) : bN P = bN R := by
  by_cases q : P
  · rw [bN_t q, bN_t (h.mp q)]
  · rw [bN_f q, bN_f (fun r => q (h.mpr r))]
section VB
variable {p : Program} {l : Launch} {e : Env} {R : Room} {s : State} {m : MethodId} {args : Array Value} {below : List Frame} {meth : Method} {c : Code} {nL cells slots : Nat} {Q : State → Prop} {I : Heap → List Loc → Prop} {cc : ByteArray} {Ts : List Cond} {own : String} {pc : Nat} {lv : List (Nat × Value)} {st : List Value}
theorem x_ifB_eq {P : Prop} [Decidable P] {off : Int} {tgt : Nat} (F : CallFix p m c cc nL s args Ts own) (hdg : decode cc pc = .ok (.ifCond .eq off, 3)) (ht : (pc : Int) + off = (tgt : Int)) (kt : ¬ P → V p l e R s m args below meth c nL cells slots Q I tgt lv st) (kf : P → V p l e R s m args below meth c nL cells slots Q I (pc + 3) lv st) : V p l e R s m args below meth c nL cells slots Q I pc lv (.int (nI (bN P)) :: st) :=
  x_ifN_eq F hdg ht (Nat.lt_trans (bN_lt P) (by decide)) (fun h => kt (fun q => by rw [bN_t q] at h; exact absurd h (by decide))) (fun h => kf (Decidable.byContradiction (fun q => h (bN_f q))))
theorem x_ifB_ne {P : Prop} [Decidable P] {off : Int} {tgt : Nat} (F : CallFix p m c cc nL s args Ts own) (hdg : decode cc pc = .ok (.ifCond .ne off, 3)) (ht : (pc : Int) + off = (tgt : Int)) (kt : P → V p l e R s m args below meth c nL cells slots Q I tgt lv st) (kf : ¬ P → V p l e R s m args below meth c nL cells slots Q I (pc + 3) lv st) : V p l e R s m args below meth c nL cells slots Q I pc lv (.int (nI (bN P)) :: st) :=
  x_ifN_ne F hdg ht (Nat.lt_trans (bN_lt P) (by decide)) (fun h => kt (Decidable.byContradiction (fun q => h (bN_f q)))) (fun h => kf (fun q => by rw [bN_t q] at h; exact absurd h (by decide)))
theorem x_icmpT_eq {x y : Int32} {a b : Int} {off : Int} {tgt : Nat} (F : CallFix p m c cc nL s args Ts own) (hdg : decode cc pc = .ok (.if_icmp .eq off, 3)) (ht : (pc : Int) + off = (tgt : Int)) (hx : x.toInt = a) (hy : y.toInt = b) (kt : a = b → V p l e R s m args below meth c nL cells slots Q I tgt lv st) (kf : ¬ a = b → V p l e R s m args below meth c nL cells slots Q I (pc + 3) lv st) : V p l e R s m args below meth c nL cells slots Q I pc lv (.int y :: .int x :: st) := x_icmp_eq F hdg ht (fun h => kt (by have q := congrArg Int32.toInt h; rw [hx, hy] at q; exact q)) (fun h => kf (fun q => h (Int32.toInt_inj.mp (by rw [hx, hy]; exact q))))
theorem x_ifT_eq {x : Int32} {a : Int} {off : Int} {tgt : Nat} (F : CallFix p m c cc nL s args Ts own) (hdg : decode cc pc = .ok (.ifCond .eq off, 3)) (ht : (pc : Int) + off = (tgt : Int)) (hx : x.toInt = a) (kt : a = 0 → V p l e R s m args below meth c nL cells slots Q I tgt lv st) (kf : ¬ a = 0 → V p l e R s m args below meth c nL cells slots Q I (pc + 3) lv st) : V p l e R s m args below meth c nL cells slots Q I pc lv (.int x :: st) := by
  have hy : (0 : Int32).toInt = 0 := rfl
  exact x_if_eq F hdg ht (fun h => kt (by have q := congrArg Int32.toInt h; rw [hx, hy] at q; exact q)) (fun h => kf (fun q => h (Int32.toInt_inj.mp (by rw [hx, hy]; exact q))))
theorem x_icmpT_ne {x y : Int32} {a b : Int} {off : Int} {tgt : Nat} (F : CallFix p m c cc nL s args Ts own) (hdg : decode cc pc = .ok (.if_icmp .ne off, 3)) (ht : (pc : Int) + off = (tgt : Int)) (hx : x.toInt = a) (hy : y.toInt = b) (kt : ¬ a = b → V p l e R s m args below meth c nL cells slots Q I tgt lv st) (kf : a = b → V p l e R s m args below meth c nL cells slots Q I (pc + 3) lv st) : V p l e R s m args below meth c nL cells slots Q I pc lv (.int y :: .int x :: st) := x_icmp_ne F hdg ht (fun h => kt (fun q => h (Int32.toInt_inj.mp (by rw [hx, hy]; exact q)))) (fun h => kf (by have q := congrArg Int32.toInt h; rw [hx, hy] at q; exact q))
theorem x_ifT_ne {x : Int32} {a : Int} {off : Int} {tgt : Nat} (F : CallFix p m c cc nL s args Ts own) (hdg : decode cc pc = .ok (.ifCond .ne off, 3)) (ht : (pc : Int) + off = (tgt : Int)) (hx : x.toInt = a) (kt : ¬ a = 0 → V p l e R s m args below meth c nL cells slots Q I tgt lv st) (kf : a = 0 → V p l e R s m args below meth c nL cells slots Q I (pc + 3) lv st) : V p l e R s m args below meth c nL cells slots Q I pc lv (.int x :: st) := by
  have hy : (0 : Int32).toInt = 0 := rfl
  exact x_if_ne F hdg ht (fun h => kt (fun q => h (Int32.toInt_inj.mp (by rw [hx, hy]; exact q)))) (fun h => kf (by have q := congrArg Int32.toInt h; rw [hx, hy] at q; exact q))
theorem x_icmpT_lt {x y : Int32} {a b : Int} {off : Int} {tgt : Nat} (F : CallFix p m c cc nL s args Ts own) (hdg : decode cc pc = .ok (.if_icmp .lt off, 3)) (ht : (pc : Int) + off = (tgt : Int)) (hx : x.toInt = a) (hy : y.toInt = b) (kt : a < b → V p l e R s m args below meth c nL cells slots Q I tgt lv st) (kf : b ≤ a → V p l e R s m args below meth c nL cells slots Q I (pc + 3) lv st) : V p l e R s m args below meth c nL cells slots Q I pc lv (.int y :: .int x :: st) := x_icmp_lt F hdg ht (fun h => kt (by have q := Int32.lt_iff_toInt_lt.mp h; rw [hx, hy] at q; exact q)) (fun h => kf (by have q := fun z => h (Int32.lt_iff_toInt_lt.mpr z); rw [hx, hy] at q; exact Int.not_lt.mp q))
theorem x_ifT_lt {x : Int32} {a : Int} {off : Int} {tgt : Nat} (F : CallFix p m c cc nL s args Ts own) (hdg : decode cc pc = .ok (.ifCond .lt off, 3)) (ht : (pc : Int) + off = (tgt : Int)) (hx : x.toInt = a) (kt : a < 0 → V p l e R s m args below meth c nL cells slots Q I tgt lv st) (kf : 0 ≤ a → V p l e R s m args below meth c nL cells slots Q I (pc + 3) lv st) : V p l e R s m args below meth c nL cells slots Q I pc lv (.int x :: st) := by
  have hy : (0 : Int32).toInt = 0 := rfl
  exact x_if_lt F hdg ht (fun h => kt (by have q := Int32.lt_iff_toInt_lt.mp h; rw [hx, hy] at q; exact q)) (fun h => kf (by have q := fun z => h (Int32.lt_iff_toInt_lt.mpr z); rw [hx, hy] at q; exact Int.not_lt.mp q))
theorem x_icmpT_ge {x y : Int32} {a b : Int} {off : Int} {tgt : Nat} (F : CallFix p m c cc nL s args Ts own) (hdg : decode cc pc = .ok (.if_icmp .ge off, 3)) (ht : (pc : Int) + off = (tgt : Int)) (hx : x.toInt = a) (hy : y.toInt = b) (kt : b ≤ a → V p l e R s m args below meth c nL cells slots Q I tgt lv st) (kf : a < b → V p l e R s m args below meth c nL cells slots Q I (pc + 3) lv st) : V p l e R s m args below meth c nL cells slots Q I pc lv (.int y :: .int x :: st) := x_icmp_ge F hdg ht (fun h => kt (by have q := Int32.le_iff_toInt_le.mp h; rw [hx, hy] at q; exact q)) (fun h => kf (by have q := fun z => h (Int32.le_iff_toInt_le.mpr z); rw [hx, hy] at q; exact Int.not_le.mp q))
theorem x_ifT_ge {x : Int32} {a : Int} {off : Int} {tgt : Nat} (F : CallFix p m c cc nL s args Ts own) (hdg : decode cc pc = .ok (.ifCond .ge off, 3)) (ht : (pc : Int) + off = (tgt : Int)) (hx : x.toInt = a) (kt : 0 ≤ a → V p l e R s m args below meth c nL cells slots Q I tgt lv st) (kf : a < 0 → V p l e R s m args below meth c nL cells slots Q I (pc + 3) lv st) : V p l e R s m args below meth c nL cells slots Q I pc lv (.int x :: st) := by
  have hy : (0 : Int32).toInt = 0 := rfl
  exact x_if_ge F hdg ht (fun h => kt (by have q := Int32.le_iff_toInt_le.mp h; rw [hx, hy] at q; exact q)) (fun h => kf (by have q := fun z => h (Int32.le_iff_toInt_le.mpr z); rw [hx, hy] at q; exact Int.not_le.mp q))
theorem x_icmpT_gt {x y : Int32} {a b : Int} {off : Int} {tgt : Nat} (F : CallFix p m c cc nL s args Ts own) (hdg : decode cc pc = .ok (.if_icmp .gt off, 3)) (ht : (pc : Int) + off = (tgt : Int)) (hx : x.toInt = a) (hy : y.toInt = b) (kt : b < a → V p l e R s m args below meth c nL cells slots Q I tgt lv st) (kf : a ≤ b → V p l e R s m args below meth c nL cells slots Q I (pc + 3) lv st) : V p l e R s m args below meth c nL cells slots Q I pc lv (.int y :: .int x :: st) := x_icmp_gt F hdg ht (fun h => kt (by have q := Int32.lt_iff_toInt_lt.mp h; rw [hx, hy] at q; exact q)) (fun h => kf (by have q := fun z => h (Int32.lt_iff_toInt_lt.mpr z); rw [hx, hy] at q; exact Int.not_lt.mp q))
theorem x_ifT_gt {x : Int32} {a : Int} {off : Int} {tgt : Nat} (F : CallFix p m c cc nL s args Ts own) (hdg : decode cc pc = .ok (.ifCond .gt off, 3)) (ht : (pc : Int) + off = (tgt : Int)) (hx : x.toInt = a) (kt : 0 < a → V p l e R s m args below meth c nL cells slots Q I tgt lv st) (kf : a ≤ 0 → V p l e R s m args below meth c nL cells slots Q I (pc + 3) lv st) : V p l e R s m args below meth c nL cells slots Q I pc lv (.int x :: st) := by
  have hy : (0 : Int32).toInt = 0 := rfl
  exact x_if_gt F hdg ht (fun h => kt (by have q := Int32.lt_iff_toInt_lt.mp h; rw [hx, hy] at q; exact q)) (fun h => kf (by have q := fun z => h (Int32.lt_iff_toInt_lt.mpr z); rw [hx, hy] at q; exact Int.not_lt.mp q))
theorem x_icmpT_le {x y : Int32} {a b : Int} {off : Int} {tgt : Nat} (F : CallFix p m c cc nL s args Ts own) (hdg : decode cc pc = .ok (.if_icmp .le off, 3)) (ht : (pc : Int) + off = (tgt : Int)) (hx : x.toInt = a) (hy : y.toInt = b) (kt : a ≤ b → V p l e R s m args below meth c nL cells slots Q I tgt lv st) (kf : b < a → V p l e R s m args below meth c nL cells slots Q I (pc + 3) lv st) : V p l e R s m args below meth c nL cells slots Q I pc lv (.int y :: .int x :: st) := x_icmp_le F hdg ht (fun h => kt (by have q := Int32.le_iff_toInt_le.mp h; rw [hx, hy] at q; exact q)) (fun h => kf (by have q := fun z => h (Int32.le_iff_toInt_le.mpr z); rw [hx, hy] at q; exact Int.not_le.mp q))
theorem x_ifT_le {x : Int32} {a : Int} {off : Int} {tgt : Nat} (F : CallFix p m c cc nL s args Ts own) (hdg : decode cc pc = .ok (.ifCond .le off, 3)) (ht : (pc : Int) + off = (tgt : Int)) (hx : x.toInt = a) (kt : a ≤ 0 → V p l e R s m args below meth c nL cells slots Q I tgt lv st) (kf : 0 < a → V p l e R s m args below meth c nL cells slots Q I (pc + 3) lv st) : V p l e R s m args below meth c nL cells slots Q I pc lv (.int x :: st) := by
  have hy : (0 : Int32).toInt = 0 := rfl
  exact x_if_le F hdg ht (fun h => kt (by have q := Int32.le_iff_toInt_le.mp h; rw [hx, hy] at q; exact q)) (fun h => kf (by have q := fun z => h (Int32.le_iff_toInt_le.mpr z); rw [hx, hy] at q; exact Int.not_le.mp q))
end VB
section VT
variable {p : Program} {l : Launch} {e : Env} {R : Room} {s : State} {m : MethodId} {args : Array Value} {below : List Frame} {meth : Method} {c : Code} {nL cells slots : Nat} {Q : State → Prop} {I : Heap → List Loc → Prop} {cc : ByteArray} {Ts : List Cond} {own : String} {pc : Nat} {lv : List (Nat × Value)} {st : List Value}
theorem x_tableN {v k : Nat} {dflt lo hi off : Int} {offs : Array Int} {len tgt : Nat} (F : CallFix p m c cc nL s args Ts own) (hdg : decode cc pc = .ok (.tableswitch dflt lo hi offs, len)) (hv : v = k) (hk : k < 2147483648) (h1 : ¬ (k : Int) < lo) (h2 : ¬ hi < (k : Int)) (ho : offs[((k : Int) - lo).toNat]? = some off) (ht : (pc : Int) + off = (tgt : Int)) (kk : V p l e R s m args below meth c nL cells slots Q I tgt lv st) : V p l e R s m args below meth c nL cells slots Q I pc lv (.int (nI v) :: st) := by
  subst hv
  have e1 : (nI v).toInt = (v : Int) := nI_toInt hk
  exact x_tableIn F hdg (by rw [e1]; exact h1) (by rw [e1]; exact h2) (by rw [e1]; exact ho) ht kk
theorem x_tableNO {v : Nat} {dflt lo hi : Int} {offs : Array Int} {len tgt : Nat} (F : CallFix p m c cc nL s args Ts own) (hdg : decode cc pc = .ok (.tableswitch dflt lo hi offs, len)) (hk : v < 2147483648) (h : (v : Int) < lo ∨ hi < (v : Int)) (ht : (pc : Int) + dflt = (tgt : Int)) (kk : V p l e R s m args below meth c nL cells slots Q I tgt lv st) : V p l e R s m args below meth c nL cells slots Q I pc lv (.int (nI v) :: st) :=
  x_tableOut F hdg (by rw [nI_toInt hk]; exact h) ht kk
theorem x_mabs {index : Nat} {x z : Int32} (F : CallFix p m c cc nL s args Ts own) (hlink : Cond.methodLink own index Lib.Math.abs.name ∈ Ts) (hstat : Cond.static Lib.Math.abs.name ∈ Ts) (hini : Cond.initialized "java/lang/Math" ∈ Ts) (hcode : Cond.code Lib.Math.abs.name Lib.Math.abs.code 1 (some .int) ∈ Ts) (hframes : 1 ≤ R.frames) (hlocals : (st.map fun v => v.category).sum + 13 ≤ R.locals) (hz : (if 0 ≤ x then x else 0 - x) = z) (hdg : decode cc pc = .ok (.invokestatic index, 3)) (kk : V p l e R s m args below meth c nL 0 0 Q I (pc + 3) lv (.int z :: st)) : V p l e R s m args below meth c nL 0 0 Q I pc lv (.int x :: st) := by
  subst hz
  intro H locs ls hI hl
  have hml : c.maxLocals = ls.size := F.2.2.1.trans hl.1.symm
  exact va_mabs F.1 F.2.1 hml F.2.2.2.1 (F.2.2.2.2 _ hlink) (F.2.2.2.2 _ hstat) (F.2.2.2.2 _ hini) (F.2.2.2.2 _ hcode) hframes hlocals (Nat.zero_le _) (Nat.zero_le _) hdg (kk H locs ls hI hl)
end VT
