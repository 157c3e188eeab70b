/-! ===== part 82: the law's frame: two objects side by side ===== -/
theorem aXA {h q1 q2 q3 q4 q5 q6 : Nat} {cs : Nat → ClassId} (u : SX) (n a : Nat) (z : aX h (six q1 q2 q3 q4 q5 q6) n a) : va_A (wX h (six q1 q2 q3 q4 q5 q6) cs u) n a := by
  rcases z with z | ⟨k, z⟩ | z
  · subst z; exact .inl ⟨0, _, rfl⟩
  · subst z
    match k with
    | 1 => exact .inl ⟨1, _, rfl⟩
    | 2 => exact .inl ⟨2, _, rfl⟩
    | 3 => exact .inl ⟨3, _, rfl⟩
    | 4 => exact .inl ⟨4, _, rfl⟩
    | 5 => exact .inl ⟨5, _, rfl⟩
    | 0 => exact .inl ⟨6, _, rfl⟩
    | _ + 6 => exact .inl ⟨6, _, rfl⟩
  · exact .inr z
theorem aMA {h q1 q2 q3 q4 q5 q6 : Nat} {cs : Nat → ClassId} (u : SM) (n a : Nat) (z : aX h (six q1 q2 q3 q4 q5 q6) n a) : va_A (wM h (six q1 q2 q3 q4 q5 q6) cs u) n a := by
  rcases z with z | ⟨k, z⟩ | z
  · subst z; exact .inl ⟨0, _, rfl⟩
  · subst z
    match k with
    | 1 => exact .inl ⟨1, _, rfl⟩
    | 2 => exact .inl ⟨2, _, rfl⟩
    | 3 => exact .inl ⟨3, _, rfl⟩
    | 4 => exact .inl ⟨4, _, rfl⟩
    | 5 => exact .inl ⟨5, _, rfl⟩
    | 0 => exact .inl ⟨6, _, rfl⟩
    | _ + 6 => exact .inl ⟨6, _, rfl⟩
  · exact .inr z
abbrev nA (s : State) : Nat → Prop := fun a => s.heap.size ≤ a
section VY
variable {p : Program} {l : Launch} {e : Env} {R : Room} {s : State} {m : MethodId} {args : Array Value} {below : List Frame} {meth : Method} {c : Code} {nL cells slots : Nat} {Q : State → Prop} {cc : ByteArray} {Ts : List Cond} {own : String} {pc : Nat} {lv : List (Nat × Value)} {st : List Value} {D : va_G} {h : Nat} {q : Nat → Nat} {cs : Nat → ClassId} {σ : Type} {w : wF σ} {ty : tF} {w2 : va_W}
theorem y_calli {y : MethodName} {ws' : List Cond} {rm : Room} {u0 : σ} {post : Int32 → σ → Prop} {bytes : ByteArray} {maxL n index ci N : Nat} {ret : Option FieldType} {C : String} {T : u_T} {fs : List Value} (F : CallFix p m c cc nL s args Ts own) (hK : va_K D vwCl (ty cs) s) (hwi : wIn w) (hwA : ∀ (u : σ) (n a : Nat), aX h q n a → va_A (w h q cs u) n a) (hC : [0, 1, 2, 3, 4, 5, 6].map (fun i => (w h q cs u0 ++ w2)[i]?) = (w h q cs u0).map some) (hR : [7, 8, 9, 10, 11, 12, 13].map (fun i => (w h q cs u0 ++ w2)[i]?) = w2.map some) (As rest : List Value) (hM : MCi w ty l y ws' rm As u0 post) (cw : CallW R s args own C index y bytes maxL ret ws' rm 0 0 n) (he : (w h q cs u0)[0]? = some (h, .inr (ci, fs))) (hc : vwCl[ci]? = some (C, T, N)) (hn : As.length = n) (hst : st = As.reverse ++ .ref h :: rest) (hW : (rest.map fun v => v.category).sum ≤ 8) (hdg : decode cc pc = .ok (.invokevirtual index, 3)) (hRm : cells ≤ R.cells ∧ slots ≤ R.slots) (kk : ∀ (r : Int32) (u : σ), post r u → V p l e R s m args below meth c nL cells slots Q (IW D (nA s) s.heap (w2 ++ w h q cs u)) (pc + 3) lv (.int r :: rest)) : V p l e R s m args below meth c nL cells slots Q (IW D (nA s) s.heap (w h q cs u0 ++ w2)) pc lv st := by
  intro H locs ls hI hl
  have hP := hI.1
  have hD := hI.2.1
  have hS := hI.2.2
  have hPc : va_P D vwCl (w h q cs u0) H := fun k z hz => hP k z (by rw [List.getElem?_append_left (List.getElem?_eq_some_iff.mp hz).1]; exact hz)
  have hF := va_free (wc := w h q cs u0) hD hS (fun _ z => z) [0, 1, 2, 3, 4, 5, 6] hC
  have hD2 : va_D (aX h q H.size) (w h q cs u0) := ⟨(hD.sub [0, 1, 2, 3, 4, 5, 6] (by decide) hC).1, fun k z hz => (hwi h q cs u0 k z hz).elim (fun h1 => Or.inl h1) (fun h1 => Or.inr (Or.inl h1))⟩
  refine va_calli (A0 := nA s) (A1 := aX h q H.size) (va_runV (As := As) (rest := rest) F (hM D h q cs H.size) cw ⟨fun a U g mk hq => ⟨hq.1, hq.2.1, hq.2.2.1, va_K.moved (u := U) (U := U.calling g mk a) (Vm.Alike.refl U.vm) hq.2.2.2.1, hq.2.2.2.2⟩, va_recv hK hPc hc he, fun U hU hW => ⟨rfl, by rw [hU], by rw [hU]; exact hPc, va_K.moved hW.alike hK, hD2⟩⟩ rfl hn hl.1 hst (lv_room hW) hdg hRm) hS (fun a _ z => hF a (hwA u0 _ a z)) (fun a z => hF a (hwA u0 _ a z)) (fun r u t H1 locs1 ht hvm hw hB hz hk hS1 => ?_)
  obtain ⟨hP3, hD3⟩ := va_join (wr := w2) (w1 := w h q cs u) hP hD [0, 1, 2, 3, 4, 5, 6] [7, 8, 9, 10, 11, 12, 13] hC hR (by decide) (by decide) (fun a h1 h2 => hk a h1 (fun z => h2 (hwA u0 _ a z))) hF (by rw [← ht]; exact hB.1) (hB.2.2.weaken (fun _ _ _ z => hwA u0 _ _ z))
  exact kk r u hw H1 locs1 ls ⟨hP3, hD3, hS1⟩ hl
theorem y_calll {y : MethodName} {ws' : List Cond} {rm : Room} {u0 : σ} {post : Int64 → σ → Prop} {bytes : ByteArray} {maxL n index ci N : Nat} {ret : Option FieldType} {C : String} {T : u_T} {fs : List Value} (F : CallFix p m c cc nL s args Ts own) (hK : va_K D vwCl (ty cs) s) (hwi : wIn w) (hwA : ∀ (u : σ) (n a : Nat), aX h q n a → va_A (w h q cs u) n a) (hC : [0, 1, 2, 3, 4, 5, 6].map (fun i => (w h q cs u0 ++ w2)[i]?) = (w h q cs u0).map some) (hR : [7, 8, 9, 10, 11, 12, 13].map (fun i => (w h q cs u0 ++ w2)[i]?) = w2.map some) (As rest : List Value) (hM : MCl w ty l y ws' rm As u0 post) (cw : CallW R s args own C index y bytes maxL ret ws' rm 0 0 n) (he : (w h q cs u0)[0]? = some (h, .inr (ci, fs))) (hc : vwCl[ci]? = some (C, T, N)) (hn : As.length = n) (hst : st = As.reverse ++ .ref h :: rest) (hW : (rest.map fun v => v.category).sum ≤ 8) (hdg : decode cc pc = .ok (.invokevirtual index, 3)) (hRm : cells ≤ R.cells ∧ slots ≤ R.slots) (kk : ∀ (r : Int64) (u : σ), post r u → V p l e R s m args below meth c nL cells slots Q (IW D (nA s) s.heap (w2 ++ w h q cs u)) (pc + 3) lv (.long r :: rest)) : V p l e R s m args below meth c nL cells slots Q (IW D (nA s) s.heap (w h q cs u0 ++ w2)) pc lv st := by
  intro H locs ls hI hl
  have hP := hI.1
  have hD := hI.2.1
  have hS := hI.2.2
  have hPc : va_P D vwCl (w h q cs u0) H := fun k z hz => hP k z (by rw [List.getElem?_append_left (List.getElem?_eq_some_iff.mp hz).1]; exact hz)
  have hF := va_free (wc := w h q cs u0) hD hS (fun _ z => z) [0, 1, 2, 3, 4, 5, 6] hC
  have hD2 : va_D (aX h q H.size) (w h q cs u0) := ⟨(hD.sub [0, 1, 2, 3, 4, 5, 6] (by decide) hC).1, fun k z hz => (hwi h q cs u0 k z hz).elim (fun h1 => Or.inl h1) (fun h1 => Or.inr (Or.inl h1))⟩
  refine va_calll (A0 := nA s) (A1 := aX h q H.size) (va_runV (As := As) (rest := rest) F (hM D h q cs H.size) cw ⟨fun a U g mk hq => ⟨hq.1, hq.2.1, hq.2.2.1, va_K.moved (u := U) (U := U.calling g mk a) (Vm.Alike.refl U.vm) hq.2.2.2.1, hq.2.2.2.2⟩, va_recv hK hPc hc he, fun U hU hW => ⟨rfl, by rw [hU], by rw [hU]; exact hPc, va_K.moved hW.alike hK, hD2⟩⟩ rfl hn hl.1 hst (lv_room hW) hdg hRm) hS (fun a _ z => hF a (hwA u0 _ a z)) (fun a z => hF a (hwA u0 _ a z)) (fun r u t H1 locs1 ht hvm hw hB hz hk hS1 => ?_)
  obtain ⟨hP3, hD3⟩ := va_join (wr := w2) (w1 := w h q cs u) hP hD [0, 1, 2, 3, 4, 5, 6] [7, 8, 9, 10, 11, 12, 13] hC hR (by decide) (by decide) (fun a h1 h2 => hk a h1 (fun z => h2 (hwA u0 _ a z))) hF (by rw [← ht]; exact hB.1) (hB.2.2.weaken (fun _ _ _ z => hwA u0 _ _ z))
  exact kk r u hw H1 locs1 ls ⟨hP3, hD3, hS1⟩ hl
theorem y_sld {b L i : Nat} {xs : Nat → Int32} {ws : va_W} (F : CallFix p m c cc nL s args Ts own) (hX : va_X b L xs s s.heap) (hbl : b < s.heap.size) (hL : L ≤ 2048) (hi : i < L) (hdg : decode cc pc = .ok (.iaload, 1)) (kk : V p l e R s m args below meth c nL cells slots Q (IW D (nA s) s.heap ws) (pc + 1) lv (.int (xs i) :: st)) : V p l e R s m args below meth c nL cells slots Q (IW D (nA s) s.heap ws) pc lv (.int (nI i) :: .ref b :: st) := by
  intro H locs ls hI hl
  refine va_sld F.1 F.2.1 hX hbl (Nat.not_le.mpr hbl) hI.2.2 (vp_in_nI hi (by omega)) hdg ?_
  have e1 : (nI i).toNatClampNeg = i := nI_clamp (by omega)
  rw [e1]
  exact kk H locs ls hI hl
theorem y_slen {b L : Nat} {xs : Nat → Int32} {ws : va_W} (F : CallFix p m c cc nL s args Ts own) (hX : va_X b L xs s s.heap) (hbl : b < s.heap.size) (hdg : decode cc pc = .ok (.arraylength, 1)) (kk : V p l e R s m args below meth c nL cells slots Q (IW D (nA s) s.heap ws) (pc + 1) lv (.int (nI L) :: st)) : V p l e R s m args below meth c nL cells slots Q (IW D (nA s) s.heap ws) pc lv (.ref b :: st) :=
  fun H locs ls hI hl => va_slen F.1 F.2.1 hX hbl (Nat.not_le.mpr hbl) hI.2.2 hdg (kk H locs ls hI hl)
end VY
theorem lgc_self (x : Int64) : lg_cmp x x = 0 := by
  simp [lg_cmp]
/-- what the law's walk stands on -/
def LC (p : Program) (m : MethodId) (c : Code) (s : State) (args : Array Value) (D : va_G) (b L : Nat) (xs : Nat → Int32) (hX : Nat) (qX : Nat → Nat) (cX : Nat → ClassId) (hM : Nat) (qM : Nat → Nat) (cM : Nat → ClassId) : Prop :=
  CallFix p m c cL_law 4 s args wsL_law RL ∧ va_K D vwCl (tX cX) s ∧ va_K D vwCl (tM cM) s ∧ (∀ (u : SX) (n a : Nat), aX hX qX n a → va_A (wX hX qX cX u) n a) ∧ (∀ (u : SM) (n a : Nat), aX hM qM n a → va_A (wM hM qM cM u) n a) ∧ va_X b L xs s s.heap ∧ b < s.heap.size ∧ L ≤ 2048
abbrev LV (p : Program) (l : Launch) (e : Env) (s : State) (m : MethodId) (args : Array Value) (below : List Frame) (meth : Method) (c : Code) (Q : State → Prop) (D : va_G) (b hX : Nat) (qX : Nat → Nat) (cX : Nat → ClassId) (hM : Nat) (qM : Nat → Nat) (cM : Nat → ClassId) (i : Nat) (uX : SX) (uM : SM) (pc : Nat) (st : List Value) : Prop :=
  V p l e room_1 s m args below meth c 4 14 4471 Q (IW D (nA s) s.heap (wX hX qX cX uX ++ wM hM qM cM uM)) pc [(0, .ref b), (1, .ref hX), (2, .ref hM), (3, .int (nI i))] st
