/-! ===== part 09z: floats of the averages ===== -/
section VN
variable {p : Program} {l : Launch} {e : Env} {R : Room} {s : State} {m : MethodId} {args : Array Value} {below : List Frame} {meth : Method} {c : Code} {nL cells slots : Nat} {Q : State → Prop} {I : Heap → List Loc → Prop} {cc : ByteArray} {Ts : List Cond} {own : String} {pc : Nat} {lv : List (Nat × Value)} {st : List Value}
theorem x_rawF {index : Nat} {b : UInt32} (F : CallFix p m c cc nL s args Ts own) (hlink : Cond.methodLink own index ⟨"java/lang/Float", "floatToRawIntBits", "(F)I"⟩ ∈ Ts) (hnat : Cond.native ⟨"java/lang/Float", "floatToRawIntBits", "(F)I"⟩ ∈ Ts) (hstat : Cond.static ⟨"java/lang/Float", "floatToRawIntBits", "(F)I"⟩ ∈ Ts) (hinit : Cond.initialized "java/lang/Float" ∈ Ts) (hframes : 1 ≤ R.frames) (hlocals : (st.map fun v => v.category).sum + 15 ≤ R.locals) (hdg : decode cc pc = .ok (.invokestatic index, 3)) (kk : V p l e R s m args below meth c nL cells slots Q I (pc + 3) lv (.int b.toInt32 :: st)) : V p l e R s m args below meth c nL cells slots Q I pc lv (.float b :: st) := by
  intro H locs ls hI hl
  exact vn_f2i F.1 F.2.1 (F.2.2.1.trans hl.1.symm) F.2.2.2.1 (F.2.2.2.2 _ hlink) (F.2.2.2.2 _ hnat) (F.2.2.2.2 _ hstat) (F.2.2.2.2 _ hinit) hframes hlocals hdg (kk H locs ls hI hl)
theorem x_rawD {index : Nat} {b : UInt64} (F : CallFix p m c cc nL s args Ts own) (hlink : Cond.methodLink own index ⟨"java/lang/Double", "doubleToRawLongBits", "(D)J"⟩ ∈ Ts) (hnat : Cond.native ⟨"java/lang/Double", "doubleToRawLongBits", "(D)J"⟩ ∈ Ts) (hstat : Cond.static ⟨"java/lang/Double", "doubleToRawLongBits", "(D)J"⟩ ∈ Ts) (hinit : Cond.initialized "java/lang/Double" ∈ Ts) (hframes : 1 ≤ R.frames) (hlocals : (st.map fun v => v.category).sum + 15 ≤ R.locals) (hdg : decode cc pc = .ok (.invokestatic index, 3)) (kk : V p l e R s m args below meth c nL cells slots Q I (pc + 3) lv (.long b.toInt64 :: st)) : V p l e R s m args below meth c nL cells slots Q I pc lv (.double b :: st) := by
  intro H locs ls hI hl
  exact vn_d2l F.1 F.2.1 (F.2.2.1.trans hl.1.symm) F.2.2.2.1 (F.2.2.2.2 _ hlink) (F.2.2.2.2 _ hnat) (F.2.2.2.2 _ hstat) (F.2.2.2.2 _ hinit) hframes hlocals hdg (kk H locs ls hI hl)
end VN
/-- as Met.ofW, by the method's own name: no entry of the natives stands in its place -/
theorem met_ofWF {l : Launch} {y : MethodName} {ws ws' : List Cond} {rm : Room} {Pc : Array Value → State → Prop} {Qc : Array Value → State → Outcome → State → Prop} {mc ms : Nat} {free : Addr → Prop} {cc : ByteArray} {maxL : Nat} {ret : Option FieldType}
    (hy : plainFor y = true) (hw : ws = Cond.code y cc maxL ret :: ws')
    (body : ∀ p e s m args below meth c s₁, BodyLoose p l y (headSpec ws rm) cc maxL ret e s m args below meth c s₁ → c.maxLocals = maxL → Pc args s →
      W p l e (headSpec ws rm).room s m args below meth c s.heap [] 0 0 (MQ below Qc args s mc ms free) (entryFrame m args maxL)) : Met l y ws rm Pc Qc mc ms free := by
  refine MetFree.of_bodySF (code := cc) (maxLocals := maxL) (ret := ret) hy ?_ ?_
  · intro args s m h hn
    obtain ⟨meth, c, h1, h2, h3, h4, h5, h6, -, -⟩ := Cond.code_spec hn (atoms_spec (ws := ws) h _ (by rw [hw]; exact List.mem_cons_self))
    exact ⟨meth, c, h1, h2, h3, h4, h5, h6⟩
  · intro p e s m args below meth c s₁ B hml hP _
    have hh0 : s₁.heap = s.heap := by rw [B.state]; rfl
    obtain ⟨t, a1, o, b1, b2, b3⟩ := body p e s m args below meth c s₁ B hml hP s₁ hh0 (Stand.of_body B)
    exact ⟨t, o, a1, b1, b2, ⟨b3.1, b3.2⟩⟩
theorem x_sstartiF {l : Launch} {y : MethodName} {ws ws1 : List Cond} {rm : Room} {As : List Value} {post : Int32 → Prop} {cc : ByteArray} {maxL : Nat} {ret : Option FieldType} {own : String} (hy : plainFor y = true) (hw : ws = Cond.code y cc maxL ret :: ws1) (ho : y.cls = own) (hlen : (lg_sl As).length ≤ maxL)
    (body : ∀ (p : Program) (e : Env) (s : State) (m : MethodId) (args : Array Value) (below : List Frame) (meth : Method) (c : Code) (D : va_G), CallFix p m c cc maxL s args ws own → meth.sig.returnType = ret → meth.locks = false → ∀ Q0 : State → Prop, Q0 = MQ below (va_Qi (fun (r : Int32) (_ : Unit) => post r) (fun _ _ => True) (fun _ => False)) args s 0 0 (fun _ => False) → V p l e rm s m args below meth c maxL 0 0 Q0 (IW D (fun _ => False) s.heap []) 0 (lv_args 0 As) []) : MSi l y ws rm As post := by
  refine met_ofWF (cc := cc) (maxL := maxL) (ret := ret) hy hw ?_
  intro p e s m args below meth c s₁ B hml hv
  obtain ⟨rfl, -⟩ := hv
  have hts := atoms_spec (ws := ws) B.pre
  have hown : s.vm.findClass y.cls = some m.cls := findClass_of_methodNamed B.named
  have hl := lv_entry As (n := maxL) hlen
  rw [lg_entry_eq]
  exact body p e s m _ below meth c ((fun _ => 0), (fun _ _ => 0)) ⟨B.exec, B.bytes, hml, ho ▸ hown, hts⟩ B.returns B.notSynchronized _ rfl s.heap [] _ ⟨fun k z hz => by simp at hz, ⟨fun i j a b ha => by simp at ha, fun k z hz => by simp at hz⟩, va_S.rf⟩ hl
theorem x_sstartlF {l : Launch} {y : MethodName} {ws ws1 : List Cond} {rm : Room} {As : List Value} {post : Int64 → Prop} {cc : ByteArray} {maxL : Nat} {ret : Option FieldType} {own : String} (hy : plainFor y = true) (hw : ws = Cond.code y cc maxL ret :: ws1) (ho : y.cls = own) (hlen : (lg_sl As).length ≤ maxL)
    (body : ∀ (p : Program) (e : Env) (s : State) (m : MethodId) (args : Array Value) (below : List Frame) (meth : Method) (c : Code) (D : va_G), CallFix p m c cc maxL s args ws own → meth.sig.returnType = ret → meth.locks = false → ∀ Q0 : State → Prop, Q0 = MQ below (va_Ql (fun (r : Int64) (_ : Unit) => post r) (fun _ _ => True) (fun _ => False)) args s 0 0 (fun _ => False) → V p l e rm s m args below meth c maxL 0 0 Q0 (IW D (fun _ => False) s.heap []) 0 (lv_args 0 As) []) : MSl l y ws rm As post := by
  refine met_ofWF (cc := cc) (maxL := maxL) (ret := ret) hy hw ?_
  intro p e s m args below meth c s₁ B hml hv
  obtain ⟨rfl, -⟩ := hv
  have hts := atoms_spec (ws := ws) B.pre
  have hown : s.vm.findClass y.cls = some m.cls := findClass_of_methodNamed B.named
  have hl := lv_entry As (n := maxL) hlen
  rw [lg_entry_eq]
  exact body p e s m _ below meth c ((fun _ => 0), (fun _ _ => 0)) ⟨B.exec, B.bytes, hml, ho ▸ hown, hts⟩ B.returns B.notSynchronized _ rfl s.heap [] _ ⟨fun k z hz => by simp at hz, ⟨fun i j a b ha => by simp at ha, fun k z hz => by simp at hz⟩, va_S.rf⟩ hl
def n32B (r : UInt32) : Bool := decide (r &&& 0x7fffffff ≤ 0x7f800000)
theorem n32_of {r : UInt32} (h : n32B r = true) : vf_n32 r := by
  unfold n32B at h
  rw [decide_eq_true_eq] at h
  exact h
abbrev fc2 (v : UInt32) : Int32 := Op.cmpValue (FP.fcmp v FP.fconst2) .l
abbrev fcE (v : UInt32) (x : Nat) : Int32 := (nI x <<< (nI 23 &&& 31)) ||| FP.f2i (FP.fmul (FP.fsub v FP.fconst1) 1258291200)
def bfC (w : Int32) : Nat → UInt32 → Nat → Bool
  | 0, _, _ => false
  | k + 1, v, x => if ¬ fc2 v < 0 ∧ x < 254 then n32B (FP.fdiv v FP.fconst2) && bfC w k (FP.fdiv v FP.fconst2) (x + 1) else (n32B (FP.fsub v FP.fconst1) && n32B (FP.fmul (FP.fsub v FP.fconst1) 1258291200)) && decide (fcE v x = w)
theorem bfC_t {w : Int32} {k x : Nat} {v : UInt32} (h : bfC w k v x = true) (h1 : ¬ fc2 v < 0) (h2 : x < 254) : ∃ k', k = k' + 1 ∧ vf_n32 (FP.fdiv v FP.fconst2) ∧ bfC w k' (FP.fdiv v FP.fconst2) (x + 1) = true := by
  rcases k with _ | k
  · exact Bool.noConfusion h
  · unfold bfC at h
    rw [if_pos ⟨h1, h2⟩, Bool.and_eq_true] at h
    exact ⟨k, rfl, n32_of h.1, h.2⟩
theorem bfC_f {w : Int32} {k x : Nat} {v : UInt32} (h : bfC w k v x = true) (h1 : fc2 v < 0 ∨ 254 ≤ x) : vf_n32 (FP.fsub v FP.fconst1) ∧ vf_n32 (FP.fmul (FP.fsub v FP.fconst1) 1258291200) ∧ fcE v x = w := by
  rcases k with _ | k
  · exact Bool.noConfusion h
  · unfold bfC at h
    rw [if_neg (fun q => by rcases h1 with h1 | h1; exact q.1 h1; omega), Bool.and_eq_true, Bool.and_eq_true] at h
    exact ⟨n32_of h.1.1, n32_of h.1.2, of_decide_eq_true h.2⟩
abbrev avF (n s : Nat) : UInt32 := FP.fdiv (FP.i2f (nI s)) (FP.i2f (nI n))
def avV (n s : Nat) : Int32 := (avF n s).toInt32
def avB (n s : Nat) : Bool := (n32B (avF n s) && decide (Op.cmpValue (FP.fcmp (avF n s) (avF n s)) .l = 0)) && bfC (avV n s) 8 (avF n s) 127
theorem av_tab : ∀ n, n < 9 → ∀ s, s < 65 → (decide (n < 2) || (decide (s < n) || avB n s)) = true := by decide +kernel
theorem av_ok {n s : Nat} (hn : 2 ≤ n) (hn8 : n ≤ 8) (hs : n ≤ s) (hs8 : s ≤ 64) : vf_n32 (avF n s) ∧ Op.cmpValue (FP.fcmp (avF n s) (avF n s)) .l = 0 ∧ bfC (avV n s) 8 (avF n s) 127 = true := by
  have h := av_tab n (by omega) s (by omega)
  rw [decide_eq_false (by omega), decide_eq_false (by omega), Bool.false_or, Bool.false_or, avB, Bool.and_eq_true, Bool.and_eq_true] at h
  exact ⟨n32_of h.1.1, of_decide_eq_true h.1.2, h.2⟩
def sp_avg (G : GS) (y : Int32) : Int32 := if 0 ≤ y.toInt ∧ y.toInt ≤ (G 3 0 : Int) then avV (G 0 0) (sumP (kr G (rdF G y.toInt.toNat) (G 4 0)) (G 0 0)) else -5
-- how many items are known: at least one a person
theorem pop_tab : ∀ b, b < 256 → b ≠ 0 → 1 ≤ popN b 8 := by decide +kernel
theorem sum_ge {X : Nat → Nat} : ∀ n, (∀ p, p < n → X p < 256 ∧ X p ≠ 0) → n ≤ sumP X n
  | 0, _ => Nat.le_refl 0
  | n + 1, h => by
    have h1 := sum_ge n (fun p hp => h p (by omega))
    have h2 := pop_tab (X n) (h n (by omega)).1 (h n (by omega)).2
    show n + 1 ≤ sumP X n + popN (X n) 8
    omega
theorem sum_le (X : Nat → Nat) : ∀ n, sumP X n ≤ 8 * n
  | 0 => Nat.le_refl 0
  | n + 1 => by
    have h1 := sum_le X n
    have h2 := pop_le (X n) 8
    show sumP X n + popN (X n) 8 ≤ 8 * (n + 1)
    omega
theorem stp_ne {G : GS} {c n : Nat} {X : Nat → Nat} (h : ∀ p, p < n → X p ≠ 0) (ha : G 6 c < n) : ∀ p, p < n → stp G c X p ≠ 0 := by
  intro p hp
  have h1 : X (G 6 c) ||| X (G 7 c) ≠ 0 := fun q => h _ ha (by rw [Nat.or_eq_zero_iff] at q; exact q.1)
  unfold stp
  split
  · exact h1
  · split
    · exact h1
    · exact h p hp
theorem kr_ne {G : GS} (hG : ok G) (f : Nat → Bool) : ∀ c, c ≤ G 4 0 → ∀ p, p < G 0 0 → kr G f c p ≠ 0
  | 0, _, p, _ => by have := Nat.two_pow_pos p; show 2 ^ p ≠ 0; omega
  | c + 1, hc, p, hp => by
    have ih := kr_ne hG f c (by omega)
    show krS G f k0 (c + 1) p ≠ 0
    by_cases q : f c = true
    · rw [kr_t q]; exact stp_ne ih (ok_in hG c (by omega)).1 p hp
    · rw [kr_f q]; exact ih p hp
theorem kr_sum {G : GS} (hG : ok G) (f : Nat → Bool) : G 0 0 ≤ sumP (kr G f (G 4 0)) (G 0 0) ∧ sumP (kr G f (G 4 0)) (G 0 0) ≤ 64 := by
  refine ⟨sum_ge _ (fun p hp => ⟨kr_256 hG f (Nat.le_refl _) p hp, kr_ne hG f _ (Nat.le_refl _) p hp⟩), ?_⟩
  have := sum_le (kr G f (G 4 0)) (G 0 0)
  have := hG.2.1
  omega
theorem c8 {X : Nat → Nat} {n : Nat} (hX : ∀ p, p < n → X p < 256) : b8 (cX n X) := fun p => by
  show (if p < n then X p else 0) < 256
  split
  · next h => exact hX p h
  · decide
theorem c8_0 {X : Nat → Nat} {n : Nat} (hn : n ≤ 8) : ∀ p, 8 ≤ p → cX n X p = 0 := fun p hp => if_neg (by omega)
theorem c8_pk {X : Nat → Nat} {n : Nat} (hn : n ≤ 8) : pkN X n = pkN (cX n X) 8 := by
  have h := pk_ext0 (X := X) (n := n) (8 - n)
  rw [show n + (8 - n) = 8 by omega] at h
  exact h.symm
theorem c8_sum {X : Nat → Nat} {n : Nat} (hn : n ≤ 8) : sumP (cX n X) 8 = sumP X n := by
  have h := sumP_hi (X := cX n X) (n := n) (fun p hp => if_neg (by omega)) (8 - n)
  rw [show n + (8 - n) = 8 by omega] at h
  rw [h]
  exact sumP_cong n (fun p hp => if_pos hp)
