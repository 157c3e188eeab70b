/-! ===== part 32: the constructors ===== -/
def G0 : GS
  | 0, _ => 2
  | _ + 1, _ => 0
def six {α : Type} (a1 a2 a3 a4 a5 a6 : α) : Nat → α
  | 1 => a1
  | 2 => a2
  | 3 => a3
  | 4 => a4
  | 5 => a5
  | _ => a6
abbrev zX : List Value := [.int 0, .int 0, .int 0, .int 0, .int 0, .null, .null, .null, .null, .null, .int 0, .null]
abbrev zM : List Value := [.int 0, .int 0, .int 0, .int 0, .int 0, .null, .null, .null, .null, .int 0, .null, .null, .long 0]
abbrev uX0 : SX := (G0, fun _ => 0)
abbrev uM0 : SM := (G0, (fun _ => 0), 0)
def BI {σ : Type} (w : wF σ) (ty : tF) (u0 : σ) (D : va_G) (A : Nat → Prop) (h : Nat) : Unit → State → Prop := fun _ U => ∃ q1 q2 q3 q4 q5 q6 c1 c2 c3 c4 c5 c6, va_P D vwCl (w h (six q1 q2 q3 q4 q5 q6) (six c1 c2 c3 c4 c5 c6) u0) U.heap ∧ va_K D vwCl (ty (six c1 c2 c3 c4 c5 c6)) U ∧ va_D A (w h (six q1 q2 q3 q4 q5 q6) (six c1 c2 c3 c4 c5 c6) u0)

set_option maxHeartbeats 400000 in
set_option maxRecDepth 100000 in
theorem c_X0_init (l : Launch) (D : va_G) (h0 : Nat) (sz : Nat) : Met l yX0_init wsX0_init ({ frames := 1, cells := 6, slots := 4267, locals := 12 }) (va_Pc [.ref h0] (fun U => U.heap.size = sz ∧ va_P D vwCl [(h0, .inr (0, zX))] U.heap ∧ va_K D vwCl [] U ∧ va_D (fun _ => True) [(h0, .inr (0, zX))])) (va_Qv (fun _ : Unit => True) (BI wX tX uX0 D (va_A [(h0, .inr (0, zX))] sz) h0) (va_A [(h0, .inr (0, zX))] sz)) 6 4267 (va_A [(h0, .inr (0, zX))] sz) := by
  refine Met.ofW (cc := cX0_init) (maxL := 1) (ret := none) (by decide) rfl ?_
  intro p e s m args below meth c s₁ B hml hv
  obtain ⟨rfl, hsz, hP, hK, hD0⟩ := hv
  have hx := B.exec
  have hb := B.bytes
  have hr := B.returns
  have hts := atoms_spec (ws := wsX0_init) B.pre
  have hown : s.vm.findClass RX0 = some m.cls := findClass_of_methodNamed B.named
  have hlocks := B.notSynchronized
  have hin : meth.name = "<init>" := (name_of_methodNamed B.named B.method).1
  subst hsz
  have hD := hD0.self (sz := s.heap.size)
  generalize hAe : va_A [(h0, .inr (0, zX))] s.heap.size = A at hD ⊢
  have hA : ∀ q : Nat, s.heap.size ≤ q → A q := fun q h => by rw [← hAe]; exact Or.inr h
  have hS : va_S A s.heap s.heap [] := va_S.rf
  have hP : va_P D vwCl [(h0, .inr (0, zX))] s.heap := hP
  have hl := lv_entry ([.ref h0]) (n := 1) (Nat.le_of_ble_eq_true rfl)
  rw [lg_entry_eq]
  generalize (lg_sl ([.ref h0]) ++ List.replicate (1 - (lg_sl ([.ref h0])).length) Slot.unset).toArray = ls at hl ⊢
  have hl : lv_has ls 1 [(0, .ref h0)] := hl
  have hin0 : ∀ w ∈ wsX00, w ∈ wsX0_init := by decide +kernel
  refine lv_aload_n hx hb dX0_init_0 rfl (lv_at hl 0 rfl) ?_
  refine W.objInit hx hb hown (hts (.methodLink RX0 1 objectInit) (by decide +kernel)) (hts (.instanceMethod objectInit) (by decide +kernel)) (hts _ (List.mem_cons_of_mem _ (List.mem_append_left _ (List.mem_of_getElem? (i := 2) rfl)))) rfl (by rw [hml]; exact hl.1) rfl dX0_init_1 (Nat.le_of_ble_eq_true rfl) (Nat.le_of_ble_eq_true rfl) ?_
  refine W.eq (g2 := F0 m 4 ls []) rfl ?_
  refine lv_aload_n hx hb dX0_init_4 rfl (lv_at hl 0 rfl) ?_
  refine lv_iconst (v := nI 2) hx hb dX0_init_5 (by decide) ?_
  refine va_put (D := D) (ci := 0) (v := .int (nI 2)) (ty := tyX0 0) (C := RX0) (T := TX0) (N := 12) hx hb hts hin0 tyX0 tyX0_ok nmX0 hown hK hP hD hS 0 rfl rfl 0 (by decide) (hts (.fieldLink RX0 9 "GossipSchedule" "personTotal" "I") (by decide +kernel)) (fun _ h9 => h9) rfl (by decide +kernel) rfl rfl (Nat.le_of_ble_eq_true rfl) dX0_init_6 (fun H locs hP hD hS => ?_)
  have hP : va_P D vwCl [(h0, .inr (0, [.int (nI 2), .int 0, .int 0, .int 0, .int 0, .null, .null, .null, .null, .null, .int 0, .null]))] H := hP
  have hD : va_D A [(h0, .inr (0, [.int (nI 2), .int 0, .int 0, .int 0, .int 0, .null, .null, .null, .null, .null, .int 0, .null]))] := hD
  refine lv_aload_n hx hb dX0_init_9 rfl (lv_at hl 0 rfl) ?_
  refine lv_iconst (v := nI 0) hx hb dX0_init_10 (by decide) ?_
  refine va_put (D := D) (ci := 0) (v := .int (nI 0)) (ty := tyX0 1) (C := RX0) (T := TX0) (N := 12) hx hb hts hin0 tyX0 tyX0_ok nmX0 hown hK hP hD hS 0 rfl rfl 1 (by decide) (hts (.fieldLink RX0 13 "GossipSchedule" "scheduleMode" "I") (by decide +kernel)) (fun _ h9 => h9) rfl (by decide +kernel) rfl rfl (Nat.le_of_ble_eq_true rfl) dX0_init_11 (fun H locs hP hD hS => ?_)
  have hP : va_P D vwCl [(h0, .inr (0, [.int (nI 2), .int (nI 0), .int 0, .int 0, .int 0, .null, .null, .null, .null, .null, .int 0, .null]))] H := hP
  have hD : va_D A [(h0, .inr (0, [.int (nI 2), .int (nI 0), .int 0, .int 0, .int 0, .null, .null, .null, .null, .null, .int 0, .null]))] := hD
  refine lv_aload_n hx hb dX0_init_14 rfl (lv_at hl 0 rfl) ?_
  refine lv_iconst (v := nI 0) hx hb dX0_init_15 (by decide) ?_
  refine va_put (D := D) (ci := 0) (v := .int (nI 0)) (ty := tyX0 2) (C := RX0) (T := TX0) (N := 12) hx hb hts hin0 tyX0 tyX0_ok nmX0 hown hK hP hD hS 0 rfl rfl 2 (by decide) (hts (.fieldLink RX0 16 "GossipSchedule" "graphKind" "I") (by decide +kernel)) (fun _ h9 => h9) rfl (by decide +kernel) rfl rfl (Nat.le_of_ble_eq_true rfl) dX0_init_16 (fun H locs hP hD hS => ?_)
  have hP : va_P D vwCl [(h0, .inr (0, [.int (nI 2), .int (nI 0), .int (nI 0), .int 0, .int 0, .null, .null, .null, .null, .null, .int 0, .null]))] H := hP
  have hD : va_D A [(h0, .inr (0, [.int (nI 2), .int (nI 0), .int (nI 0), .int 0, .int 0, .null, .null, .null, .null, .null, .int 0, .null]))] := hD
  refine lv_aload_n hx hb dX0_init_19 rfl (lv_at hl 0 rfl) ?_
  refine lv_bipush (v := nI 28) hx hb dX0_init_20 (by decide) ?_
  refine va_newa (atype := .int) (ty := .int) (n := nI 28) (N' := 28) (a0 := (28, .inl (fun _ => 0))) hx hb (hts (.arrayClass .int) (by decide +kernel)) rfl hK hP hD hS hA (fun _ => rfl) (by decide) (by decide) (Nat.le_of_ble_eq_true rfl) (Nat.le_of_ble_eq_true rfl) (Nat.le_of_ble_eq_true rfl) dX0_init_22 (fun q1 c1 H hK hP hD hS => ?_)
  have hK : va_K D vwCl [(c1, .int)] s := hK
  have hP : va_P D vwCl [(h0, .inr (0, [.int (nI 2), .int (nI 0), .int (nI 0), .int 0, .int 0, .null, .null, .null, .null, .null, .int 0, .null])), (q1, .inl (c1, (28, .inl (fun _ => 0))))] H := hP
  have hD : va_D A [(h0, .inr (0, [.int (nI 2), .int (nI 0), .int (nI 0), .int 0, .int 0, .null, .null, .null, .null, .null, .int 0, .null])), (q1, .inl (c1, (28, .inl (fun _ => 0))))] := hD
  refine W.widen (k := 1) (n := 28) (Nat.le_of_ble_eq_true rfl) (Nat.le_of_ble_eq_true rfl) ?_
  refine va_putF (D := D) (ci := 0) (v := .ref q1) (ty := tyX0 5) (C := RX0) (T := TX0) (N := 12) hx hb hts hin0 tyX0 tyX0_ok nmX0 hown hK hP hD hS 0 rfl rfl 5 (by decide) (hts (.fieldLink RX0 19 "GossipSchedule" "roundOf" "[I") (by decide +kernel)) (fun _ h9 => h9) rfl hin rfl (by decide +kernel) rfl rfl (Nat.le_of_ble_eq_true rfl) dX0_init_24 (fun H locs hP hD hS => ?_)
  have hP : va_P D vwCl [(h0, .inr (0, [.int (nI 2), .int (nI 0), .int (nI 0), .int 0, .int 0, .ref q1, .null, .null, .null, .null, .int 0, .null])), (q1, .inl (c1, (28, .inl (fun _ => 0))))] H := hP
  have hD : va_D A [(h0, .inr (0, [.int (nI 2), .int (nI 0), .int (nI 0), .int 0, .int 0, .ref q1, .null, .null, .null, .null, .int 0, .null])), (q1, .inl (c1, (28, .inl (fun _ => 0))))] := hD
  refine lv_aload_n hx hb dX0_init_27 rfl (lv_at hl 0 rfl) ?_
  refine lv_bipush (v := nI 28) hx hb dX0_init_28 (by decide) ?_
  refine va_newa (atype := .int) (ty := .int) (n := nI 28) (N' := 28) (a0 := (28, .inl (fun _ => 0))) hx hb (hts (.arrayClass .int) (by decide +kernel)) rfl hK hP hD hS hA (fun _ => rfl) (by decide) (by decide) (Nat.le_of_ble_eq_true rfl) (Nat.le_of_ble_eq_true rfl) (Nat.le_of_ble_eq_true rfl) dX0_init_30 (fun q2 c2 H hK hP hD hS => ?_)
  have hK : va_K D vwCl [(c1, .int), (c2, .int)] s := hK
  have hP : va_P D vwCl [(h0, .inr (0, [.int (nI 2), .int (nI 0), .int (nI 0), .int 0, .int 0, .ref q1, .null, .null, .null, .null, .int 0, .null])), (q1, .inl (c1, (28, .inl (fun _ => 0)))), (q2, .inl (c2, (28, .inl (fun _ => 0))))] H := hP
  have hD : va_D A [(h0, .inr (0, [.int (nI 2), .int (nI 0), .int (nI 0), .int 0, .int 0, .ref q1, .null, .null, .null, .null, .int 0, .null])), (q1, .inl (c1, (28, .inl (fun _ => 0)))), (q2, .inl (c2, (28, .inl (fun _ => 0))))] := hD
  refine W.widen (k := 2) (n := 56) (Nat.le_of_ble_eq_true rfl) (Nat.le_of_ble_eq_true rfl) ?_
  refine va_putF (D := D) (ci := 0) (v := .ref q2) (ty := tyX0 6) (C := RX0) (T := TX0) (N := 12) hx hb hts hin0 tyX0 tyX0_ok nmX0 hown hK hP hD hS 0 rfl rfl 6 (by decide) (hts (.fieldLink RX0 23 "GossipSchedule" "callerOf" "[I") (by decide +kernel)) (fun _ h9 => h9) rfl hin rfl (by decide +kernel) rfl rfl (Nat.le_of_ble_eq_true rfl) dX0_init_32 (fun H locs hP hD hS => ?_)
  have hP : va_P D vwCl [(h0, .inr (0, [.int (nI 2), .int (nI 0), .int (nI 0), .int 0, .int 0, .ref q1, .ref q2, .null, .null, .null, .int 0, .null])), (q1, .inl (c1, (28, .inl (fun _ => 0)))), (q2, .inl (c2, (28, .inl (fun _ => 0))))] H := hP
  have hD : va_D A [(h0, .inr (0, [.int (nI 2), .int (nI 0), .int (nI 0), .int 0, .int 0, .ref q1, .ref q2, .null, .null, .null, .int 0, .null])), (q1, .inl (c1, (28, .inl (fun _ => 0)))), (q2, .inl (c2, (28, .inl (fun _ => 0))))] := hD
  refine lv_aload_n hx hb dX0_init_35 rfl (lv_at hl 0 rfl) ?_
  refine lv_bipush (v := nI 28) hx hb dX0_init_36 (by decide) ?_
  refine va_newa (atype := .int) (ty := .int) (n := nI 28) (N' := 28) (a0 := (28, .inl (fun _ => 0))) hx hb (hts (.arrayClass .int) (by decide +kernel)) rfl hK hP hD hS hA (fun _ => rfl) (by decide) (by decide) (Nat.le_of_ble_eq_true rfl) (Nat.le_of_ble_eq_true rfl) (Nat.le_of_ble_eq_true rfl) dX0_init_38 (fun q3 c3 H hK hP hD hS => ?_)
  have hK : va_K D vwCl [(c1, .int), (c2, .int), (c3, .int)] s := hK
  have hP : va_P D vwCl [(h0, .inr (0, [.int (nI 2), .int (nI 0), .int (nI 0), .int 0, .int 0, .ref q1, .ref q2, .null, .null, .null, .int 0, .null])), (q1, .inl (c1, (28, .inl (fun _ => 0)))), (q2, .inl (c2, (28, .inl (fun _ => 0)))), (q3, .inl (c3, (28, .inl (fun _ => 0))))] H := hP
  have hD : va_D A [(h0, .inr (0, [.int (nI 2), .int (nI 0), .int (nI 0), .int 0, .int 0, .ref q1, .ref q2, .null, .null, .null, .int 0, .null])), (q1, .inl (c1, (28, .inl (fun _ => 0)))), (q2, .inl (c2, (28, .inl (fun _ => 0)))), (q3, .inl (c3, (28, .inl (fun _ => 0))))] := hD
  refine W.widen (k := 3) (n := 84) (Nat.le_of_ble_eq_true rfl) (Nat.le_of_ble_eq_true rfl) ?_
  refine va_putF (D := D) (ci := 0) (v := .ref q3) (ty := tyX0 7) (C := RX0) (T := TX0) (N := 12) hx hb hts hin0 tyX0 tyX0_ok nmX0 hown hK hP hD hS 0 rfl rfl 7 (by decide) (hts (.fieldLink RX0 26 "GossipSchedule" "calleeOf" "[I") (by decide +kernel)) (fun _ h9 => h9) rfl hin rfl (by decide +kernel) rfl rfl (Nat.le_of_ble_eq_true rfl) dX0_init_40 (fun H locs hP hD hS => ?_)
  have hP : va_P D vwCl [(h0, .inr (0, [.int (nI 2), .int (nI 0), .int (nI 0), .int 0, .int 0, .ref q1, .ref q2, .ref q3, .null, .null, .int 0, .null])), (q1, .inl (c1, (28, .inl (fun _ => 0)))), (q2, .inl (c2, (28, .inl (fun _ => 0)))), (q3, .inl (c3, (28, .inl (fun _ => 0))))] H := hP
  have hD : va_D A [(h0, .inr (0, [.int (nI 2), .int (nI 0), .int (nI 0), .int 0, .int 0, .ref q1, .ref q2, .ref q3, .null, .null, .int 0, .null])), (q1, .inl (c1, (28, .inl (fun _ => 0)))), (q2, .inl (c2, (28, .inl (fun _ => 0)))), (q3, .inl (c3, (28, .inl (fun _ => 0))))] := hD
  refine lv_aload_n hx hb dX0_init_43 rfl (lv_at hl 0 rfl) ?_
  refine lv_bipush (v := nI 28) hx hb dX0_init_44 (by decide) ?_
  refine va_newa (atype := .boolean) (ty := .boolean) (n := nI 28) (N' := 28) (a0 := (28, .inl (fun _ => 0))) hx hb (hts (.arrayClass .boolean) (by decide +kernel)) rfl hK hP hD hS hA (fun _ => rfl) (by decide) (by decide) (Nat.le_of_ble_eq_true rfl) (Nat.le_of_ble_eq_true rfl) (Nat.le_of_ble_eq_true rfl) dX0_init_46 (fun q4 c4 H hK hP hD hS => ?_)
  have hK : va_K D vwCl [(c1, .int), (c2, .int), (c3, .int), (c4, .boolean)] s := hK
  have hP : va_P D vwCl [(h0, .inr (0, [.int (nI 2), .int (nI 0), .int (nI 0), .int 0, .int 0, .ref q1, .ref q2, .ref q3, .null, .null, .int 0, .null])), (q1, .inl (c1, (28, .inl (fun _ => 0)))), (q2, .inl (c2, (28, .inl (fun _ => 0)))), (q3, .inl (c3, (28, .inl (fun _ => 0)))), (q4, .inl (c4, (28, .inl (fun _ => 0))))] H := hP
  have hD : va_D A [(h0, .inr (0, [.int (nI 2), .int (nI 0), .int (nI 0), .int 0, .int 0, .ref q1, .ref q2, .ref q3, .null, .null, .int 0, .null])), (q1, .inl (c1, (28, .inl (fun _ => 0)))), (q2, .inl (c2, (28, .inl (fun _ => 0)))), (q3, .inl (c3, (28, .inl (fun _ => 0)))), (q4, .inl (c4, (28, .inl (fun _ => 0))))] := hD
  refine W.widen (k := 4) (n := 112) (Nat.le_of_ble_eq_true rfl) (Nat.le_of_ble_eq_true rfl) ?_
  refine va_putF (D := D) (ci := 0) (v := .ref q4) (ty := tyX0 8) (C := RX0) (T := TX0) (N := 12) hx hb hts hin0 tyX0 tyX0_ok nmX0 hown hK hP hD hS 0 rfl rfl 8 (by decide) (hts (.fieldLink RX0 29 "GossipSchedule" "isOneWay" "[Z") (by decide +kernel)) (fun _ h9 => h9) rfl hin rfl (by decide +kernel) rfl rfl (Nat.le_of_ble_eq_true rfl) dX0_init_48 (fun H locs hP hD hS => ?_)
  have hP : va_P D vwCl [(h0, .inr (0, [.int (nI 2), .int (nI 0), .int (nI 0), .int 0, .int 0, .ref q1, .ref q2, .ref q3, .ref q4, .null, .int 0, .null])), (q1, .inl (c1, (28, .inl (fun _ => 0)))), (q2, .inl (c2, (28, .inl (fun _ => 0)))), (q3, .inl (c3, (28, .inl (fun _ => 0)))), (q4, .inl (c4, (28, .inl (fun _ => 0))))] H := hP
  have hD : va_D A [(h0, .inr (0, [.int (nI 2), .int (nI 0), .int (nI 0), .int 0, .int 0, .ref q1, .ref q2, .ref q3, .ref q4, .null, .int 0, .null])), (q1, .inl (c1, (28, .inl (fun _ => 0)))), (q2, .inl (c2, (28, .inl (fun _ => 0)))), (q3, .inl (c3, (28, .inl (fun _ => 0)))), (q4, .inl (c4, (28, .inl (fun _ => 0))))] := hD
  refine lv_aload_n hx hb dX0_init_51 rfl (lv_at hl 0 rfl) ?_
  refine lv_bipush (v := nI 59) hx hb dX0_init_52 (by decide) ?_
  refine va_newa (atype := .int) (ty := .int) (n := nI 59) (N' := 59) (a0 := (59, .inl (fun _ => 0))) hx hb (hts (.arrayClass .int) (by decide +kernel)) rfl hK hP hD hS hA (fun _ => rfl) (by decide) (by decide) (Nat.le_of_ble_eq_true rfl) (Nat.le_of_ble_eq_true rfl) (Nat.le_of_ble_eq_true rfl) dX0_init_54 (fun q5 c5 H hK hP hD hS => ?_)
  have hK : va_K D vwCl [(c1, .int), (c2, .int), (c3, .int), (c4, .boolean), (c5, .int)] s := hK
  have hP : va_P D vwCl [(h0, .inr (0, [.int (nI 2), .int (nI 0), .int (nI 0), .int 0, .int 0, .ref q1, .ref q2, .ref q3, .ref q4, .null, .int 0, .null])), (q1, .inl (c1, (28, .inl (fun _ => 0)))), (q2, .inl (c2, (28, .inl (fun _ => 0)))), (q3, .inl (c3, (28, .inl (fun _ => 0)))), (q4, .inl (c4, (28, .inl (fun _ => 0)))), (q5, .inl (c5, (59, .inl (fun _ => 0))))] H := hP
  have hD : va_D A [(h0, .inr (0, [.int (nI 2), .int (nI 0), .int (nI 0), .int 0, .int 0, .ref q1, .ref q2, .ref q3, .ref q4, .null, .int 0, .null])), (q1, .inl (c1, (28, .inl (fun _ => 0)))), (q2, .inl (c2, (28, .inl (fun _ => 0)))), (q3, .inl (c3, (28, .inl (fun _ => 0)))), (q4, .inl (c4, (28, .inl (fun _ => 0)))), (q5, .inl (c5, (59, .inl (fun _ => 0))))] := hD
  refine W.widen (k := 5) (n := 171) (Nat.le_of_ble_eq_true rfl) (Nat.le_of_ble_eq_true rfl) ?_
  refine va_putF (D := D) (ci := 0) (v := .ref q5) (ty := tyX0 9) (C := RX0) (T := TX0) (N := 12) hx hb hts hin0 tyX0 tyX0_ok nmX0 hown hK hP hD hS 0 rfl rfl 9 (by decide) (hts (.fieldLink RX0 33 "GossipSchedule" "input" "[I") (by decide +kernel)) (fun _ h9 => h9) rfl hin rfl (by decide +kernel) rfl rfl (Nat.le_of_ble_eq_true rfl) dX0_init_56 (fun H locs hP hD hS => ?_)
  have hP : va_P D vwCl [(h0, .inr (0, [.int (nI 2), .int (nI 0), .int (nI 0), .int 0, .int 0, .ref q1, .ref q2, .ref q3, .ref q4, .ref q5, .int 0, .null])), (q1, .inl (c1, (28, .inl (fun _ => 0)))), (q2, .inl (c2, (28, .inl (fun _ => 0)))), (q3, .inl (c3, (28, .inl (fun _ => 0)))), (q4, .inl (c4, (28, .inl (fun _ => 0)))), (q5, .inl (c5, (59, .inl (fun _ => 0))))] H := hP
  have hD : va_D A [(h0, .inr (0, [.int (nI 2), .int (nI 0), .int (nI 0), .int 0, .int 0, .ref q1, .ref q2, .ref q3, .ref q4, .ref q5, .int 0, .null])), (q1, .inl (c1, (28, .inl (fun _ => 0)))), (q2, .inl (c2, (28, .inl (fun _ => 0)))), (q3, .inl (c3, (28, .inl (fun _ => 0)))), (q4, .inl (c4, (28, .inl (fun _ => 0)))), (q5, .inl (c5, (59, .inl (fun _ => 0))))] := hD
  refine lv_aload_n hx hb dX0_init_59 rfl (lv_at hl 0 rfl) ?_
  refine lv_sipush (v := nI 4096) hx hb dX0_init_60 (by decide) ?_
  refine va_newa (atype := .long) (ty := .long) (n := nI 4096) (N' := 4096) (a0 := (4096, .inr (.inl (fun _ => 0)))) hx hb (hts (.arrayClass .long) (by decide +kernel)) rfl hK hP hD hS hA (fun _ => rfl) (by decide) (by decide) (Nat.le_of_ble_eq_true rfl) (Nat.le_of_ble_eq_true rfl) (Nat.le_of_ble_eq_true rfl) dX0_init_63 (fun q6 c6 H hK hP hD hS => ?_)
  have hK : va_K D vwCl [(c1, .int), (c2, .int), (c3, .int), (c4, .boolean), (c5, .int), (c6, .long)] s := hK
  have hP : va_P D vwCl [(h0, .inr (0, [.int (nI 2), .int (nI 0), .int (nI 0), .int 0, .int 0, .ref q1, .ref q2, .ref q3, .ref q4, .ref q5, .int 0, .null])), (q1, .inl (c1, (28, .inl (fun _ => 0)))), (q2, .inl (c2, (28, .inl (fun _ => 0)))), (q3, .inl (c3, (28, .inl (fun _ => 0)))), (q4, .inl (c4, (28, .inl (fun _ => 0)))), (q5, .inl (c5, (59, .inl (fun _ => 0)))), (q6, .inl (c6, (4096, .inr (.inl (fun _ => 0)))))] H := hP
  have hD : va_D A [(h0, .inr (0, [.int (nI 2), .int (nI 0), .int (nI 0), .int 0, .int 0, .ref q1, .ref q2, .ref q3, .ref q4, .ref q5, .int 0, .null])), (q1, .inl (c1, (28, .inl (fun _ => 0)))), (q2, .inl (c2, (28, .inl (fun _ => 0)))), (q3, .inl (c3, (28, .inl (fun _ => 0)))), (q4, .inl (c4, (28, .inl (fun _ => 0)))), (q5, .inl (c5, (59, .inl (fun _ => 0)))), (q6, .inl (c6, (4096, .inr (.inl (fun _ => 0)))))] := hD
  refine W.widen (k := 6) (n := 4267) (Nat.le_of_ble_eq_true rfl) (Nat.le_of_ble_eq_true rfl) ?_
  refine va_putF (D := D) (ci := 0) (v := .ref q6) (ty := tyX0 11) (C := RX0) (T := TX0) (N := 12) hx hb hts hin0 tyX0 tyX0_ok nmX0 hown hK hP hD hS 0 rfl rfl 11 (by decide) (hts (.fieldLink RX0 36 "GossipSchedule" "knownAfterMask" "[J") (by decide +kernel)) (fun _ h9 => h9) rfl hin rfl (by decide +kernel) rfl rfl (Nat.le_of_ble_eq_true rfl) dX0_init_65 (fun H locs hP hD hS => ?_)
  have hP : va_P D vwCl [(h0, .inr (0, [.int (nI 2), .int (nI 0), .int (nI 0), .int 0, .int 0, .ref q1, .ref q2, .ref q3, .ref q4, .ref q5, .int 0, .ref q6])), (q1, .inl (c1, (28, .inl (fun _ => 0)))), (q2, .inl (c2, (28, .inl (fun _ => 0)))), (q3, .inl (c3, (28, .inl (fun _ => 0)))), (q4, .inl (c4, (28, .inl (fun _ => 0)))), (q5, .inl (c5, (59, .inl (fun _ => 0)))), (q6, .inl (c6, (4096, .inr (.inl (fun _ => 0)))))] H := hP
  have hD : va_D A [(h0, .inr (0, [.int (nI 2), .int (nI 0), .int (nI 0), .int 0, .int 0, .ref q1, .ref q2, .ref q3, .ref q4, .ref q5, .int 0, .ref q6])), (q1, .inl (c1, (28, .inl (fun _ => 0)))), (q2, .inl (c2, (28, .inl (fun _ => 0)))), (q3, .inl (c3, (28, .inl (fun _ => 0)))), (q4, .inl (c4, (28, .inl (fun _ => 0)))), (q5, .inl (c5, (59, .inl (fun _ => 0)))), (q6, .inl (c6, (4096, .inr (.inl (fun _ => 0)))))] := hD
  have hP9 : va_P D vwCl (wX h0 (six q1 q2 q3 q4 q5 q6) (six c1 c2 c3 c4 c5 c6) uX0) H := hP
  have hD9 : va_D A (wX h0 (six q1 q2 q3 q4 q5 q6) (six c1 c2 c3 c4 c5 c6) uX0) := hD
  have hK9 : va_K D vwCl (tX (six c1 c2 c3 c4 c5 c6)) s := hK
  exact W.vret hx hb hr (fun t ht hW => ⟨⟨(), rfl, trivial, q1, q2, q3, q4, q5, q6, c1, c2, c3, c4, c5, c6, by rw [ht]; exact hP9, va_K.moved hW.alike hK9, hD9⟩, hS.F ht⟩) hS.2.2 dX0_init_68 hlocks
set_option maxHeartbeats 400000 in
set_option maxRecDepth 100000 in
theorem c_X1_init (l : Launch) (D : va_G) (h0 : Nat) (sz : Nat) : Met l yX1_init wsX1_init ({ frames := 1, cells := 6, slots := 179, locals := 12 }) (va_Pc [.ref h0] (fun U => U.heap.size = sz ∧ va_P D vwCl [(h0, .inr (1, zM))] U.heap ∧ va_K D vwCl [] U ∧ va_D (fun _ => True) [(h0, .inr (1, zM))])) (va_Qv (fun _ : Unit => True) (BI wM tM uM0 D (va_A [(h0, .inr (1, zM))] sz) h0) (va_A [(h0, .inr (1, zM))] sz)) 6 179 (va_A [(h0, .inr (1, zM))] sz) := by
  refine Met.ofW (cc := cX1_init) (maxL := 1) (ret := none) (by decide) rfl ?_
  intro p e s m args below meth c s₁ B hml hv
  obtain ⟨rfl, hsz, hP, hK, hD0⟩ := hv
  have hx := B.exec
  have hb := B.bytes
  have hr := B.returns
  have hts := atoms_spec (ws := wsX1_init) B.pre
  have hown : s.vm.findClass RX1 = some m.cls := findClass_of_methodNamed B.named
  have hlocks := B.notSynchronized
  have hin : meth.name = "<init>" := (name_of_methodNamed B.named B.method).1
  subst hsz
  have hD := hD0.self (sz := s.heap.size)
  generalize hAe : va_A [(h0, .inr (1, zM))] s.heap.size = A at hD ⊢
  have hA : ∀ q : Nat, s.heap.size ≤ q → A q := fun q h => by rw [← hAe]; exact Or.inr h
  have hS : va_S A s.heap s.heap [] := va_S.rf
  have hP : va_P D vwCl [(h0, .inr (1, zM))] s.heap := hP
  have hl := lv_entry ([.ref h0]) (n := 1) (Nat.le_of_ble_eq_true rfl)
  rw [lg_entry_eq]
  generalize (lg_sl ([.ref h0]) ++ List.replicate (1 - (lg_sl ([.ref h0])).length) Slot.unset).toArray = ls at hl ⊢
  have hl : lv_has ls 1 [(0, .ref h0)] := hl
  have hin0 : ∀ w ∈ wsX10, w ∈ wsX1_init := by decide +kernel
  refine lv_aload_n hx hb dX1_init_0 rfl (lv_at hl 0 rfl) ?_
  refine W.objInit hx hb hown (hts (.methodLink RX1 1 objectInit) (by decide +kernel)) (hts (.instanceMethod objectInit) (by decide +kernel)) (hts _ (List.mem_cons_of_mem _ (List.mem_append_left _ (List.mem_of_getElem? (i := 2) rfl)))) rfl (by rw [hml]; exact hl.1) rfl dX1_init_1 (Nat.le_of_ble_eq_true rfl) (Nat.le_of_ble_eq_true rfl) ?_
  refine W.eq (g2 := F0 m 4 ls []) rfl ?_
  refine lv_aload_n hx hb dX1_init_4 rfl (lv_at hl 0 rfl) ?_
  refine lv_iconst (v := nI 2) hx hb dX1_init_5 (by decide) ?_
  refine va_put (D := D) (ci := 1) (v := .int (nI 2)) (ty := tyX1 0) (C := RX1) (T := TX1) (N := 13) hx hb hts hin0 tyX1 tyX1_ok nmX1 hown hK hP hD hS 0 rfl rfl 0 (by decide) (hts (.fieldLink RX1 7 "GossipScheduleModel" "persons" "I") (by decide +kernel)) (fun _ h9 => h9) rfl (by decide +kernel) rfl rfl (Nat.le_of_ble_eq_true rfl) dX1_init_6 (fun H locs hP hD hS => ?_)
  have hP : va_P D vwCl [(h0, .inr (1, [.int (nI 2), .int 0, .int 0, .int 0, .int 0, .null, .null, .null, .null, .int 0, .null, .null, .long 0]))] H := hP
  have hD : va_D A [(h0, .inr (1, [.int (nI 2), .int 0, .int 0, .int 0, .int 0, .null, .null, .null, .null, .int 0, .null, .null, .long 0]))] := hD
  refine lv_aload_n hx hb dX1_init_9 rfl (lv_at hl 0 rfl) ?_
  refine lv_bipush (v := nI 28) hx hb dX1_init_10 (by decide) ?_
  refine va_newa (atype := .int) (ty := .int) (n := nI 28) (N' := 28) (a0 := (28, .inl (fun _ => 0))) hx hb (hts (.arrayClass .int) (by decide +kernel)) rfl hK hP hD hS hA (fun _ => rfl) (by decide) (by decide) (Nat.le_of_ble_eq_true rfl) (Nat.le_of_ble_eq_true rfl) (Nat.le_of_ble_eq_true rfl) dX1_init_12 (fun q1 c1 H hK hP hD hS => ?_)
  have hK : va_K D vwCl [(c1, .int)] s := hK
  have hP : va_P D vwCl [(h0, .inr (1, [.int (nI 2), .int 0, .int 0, .int 0, .int 0, .null, .null, .null, .null, .int 0, .null, .null, .long 0])), (q1, .inl (c1, (28, .inl (fun _ => 0))))] H := hP
  have hD : va_D A [(h0, .inr (1, [.int (nI 2), .int 0, .int 0, .int 0, .int 0, .null, .null, .null, .null, .int 0, .null, .null, .long 0])), (q1, .inl (c1, (28, .inl (fun _ => 0))))] := hD
  refine W.widen (k := 1) (n := 28) (Nat.le_of_ble_eq_true rfl) (Nat.le_of_ble_eq_true rfl) ?_
  refine va_putF (D := D) (ci := 1) (v := .ref q1) (ty := tyX1 5) (C := RX1) (T := TX1) (N := 13) hx hb hts hin0 tyX1 tyX1_ok nmX1 hown hK hP hD hS 0 rfl rfl 5 (by decide) (hts (.fieldLink RX1 13 "GossipScheduleModel" "roundOf" "[I") (by decide +kernel)) (fun _ h9 => h9) rfl hin rfl (by decide +kernel) rfl rfl (Nat.le_of_ble_eq_true rfl) dX1_init_14 (fun H locs hP hD hS => ?_)
  have hP : va_P D vwCl [(h0, .inr (1, [.int (nI 2), .int 0, .int 0, .int 0, .int 0, .ref q1, .null, .null, .null, .int 0, .null, .null, .long 0])), (q1, .inl (c1, (28, .inl (fun _ => 0))))] H := hP
  have hD : va_D A [(h0, .inr (1, [.int (nI 2), .int 0, .int 0, .int 0, .int 0, .ref q1, .null, .null, .null, .int 0, .null, .null, .long 0])), (q1, .inl (c1, (28, .inl (fun _ => 0))))] := hD
  refine lv_aload_n hx hb dX1_init_17 rfl (lv_at hl 0 rfl) ?_
  refine lv_bipush (v := nI 28) hx hb dX1_init_18 (by decide) ?_
  refine va_newa (atype := .int) (ty := .int) (n := nI 28) (N' := 28) (a0 := (28, .inl (fun _ => 0))) hx hb (hts (.arrayClass .int) (by decide +kernel)) rfl hK hP hD hS hA (fun _ => rfl) (by decide) (by decide) (Nat.le_of_ble_eq_true rfl) (Nat.le_of_ble_eq_true rfl) (Nat.le_of_ble_eq_true rfl) dX1_init_20 (fun q2 c2 H hK hP hD hS => ?_)
  have hK : va_K D vwCl [(c1, .int), (c2, .int)] s := hK
  have hP : va_P D vwCl [(h0, .inr (1, [.int (nI 2), .int 0, .int 0, .int 0, .int 0, .ref q1, .null, .null, .null, .int 0, .null, .null, .long 0])), (q1, .inl (c1, (28, .inl (fun _ => 0)))), (q2, .inl (c2, (28, .inl (fun _ => 0))))] H := hP
  have hD : va_D A [(h0, .inr (1, [.int (nI 2), .int 0, .int 0, .int 0, .int 0, .ref q1, .null, .null, .null, .int 0, .null, .null, .long 0])), (q1, .inl (c1, (28, .inl (fun _ => 0)))), (q2, .inl (c2, (28, .inl (fun _ => 0))))] := hD
  refine W.widen (k := 2) (n := 56) (Nat.le_of_ble_eq_true rfl) (Nat.le_of_ble_eq_true rfl) ?_
  refine va_putF (D := D) (ci := 1) (v := .ref q2) (ty := tyX1 6) (C := RX1) (T := TX1) (N := 13) hx hb hts hin0 tyX1 tyX1_ok nmX1 hown hK hP hD hS 0 rfl rfl 6 (by decide) (hts (.fieldLink RX1 17 "GossipScheduleModel" "callerOf" "[I") (by decide +kernel)) (fun _ h9 => h9) rfl hin rfl (by decide +kernel) rfl rfl (Nat.le_of_ble_eq_true rfl) dX1_init_22 (fun H locs hP hD hS => ?_)
  have hP : va_P D vwCl [(h0, .inr (1, [.int (nI 2), .int 0, .int 0, .int 0, .int 0, .ref q1, .ref q2, .null, .null, .int 0, .null, .null, .long 0])), (q1, .inl (c1, (28, .inl (fun _ => 0)))), (q2, .inl (c2, (28, .inl (fun _ => 0))))] H := hP
  have hD : va_D A [(h0, .inr (1, [.int (nI 2), .int 0, .int 0, .int 0, .int 0, .ref q1, .ref q2, .null, .null, .int 0, .null, .null, .long 0])), (q1, .inl (c1, (28, .inl (fun _ => 0)))), (q2, .inl (c2, (28, .inl (fun _ => 0))))] := hD
  refine lv_aload_n hx hb dX1_init_25 rfl (lv_at hl 0 rfl) ?_
  refine lv_bipush (v := nI 28) hx hb dX1_init_26 (by decide) ?_
  refine va_newa (atype := .int) (ty := .int) (n := nI 28) (N' := 28) (a0 := (28, .inl (fun _ => 0))) hx hb (hts (.arrayClass .int) (by decide +kernel)) rfl hK hP hD hS hA (fun _ => rfl) (by decide) (by decide) (Nat.le_of_ble_eq_true rfl) (Nat.le_of_ble_eq_true rfl) (Nat.le_of_ble_eq_true rfl) dX1_init_28 (fun q3 c3 H hK hP hD hS => ?_)
  have hK : va_K D vwCl [(c1, .int), (c2, .int), (c3, .int)] s := hK
  have hP : va_P D vwCl [(h0, .inr (1, [.int (nI 2), .int 0, .int 0, .int 0, .int 0, .ref q1, .ref q2, .null, .null, .int 0, .null, .null, .long 0])), (q1, .inl (c1, (28, .inl (fun _ => 0)))), (q2, .inl (c2, (28, .inl (fun _ => 0)))), (q3, .inl (c3, (28, .inl (fun _ => 0))))] H := hP
  have hD : va_D A [(h0, .inr (1, [.int (nI 2), .int 0, .int 0, .int 0, .int 0, .ref q1, .ref q2, .null, .null, .int 0, .null, .null, .long 0])), (q1, .inl (c1, (28, .inl (fun _ => 0)))), (q2, .inl (c2, (28, .inl (fun _ => 0)))), (q3, .inl (c3, (28, .inl (fun _ => 0))))] := hD
  refine W.widen (k := 3) (n := 84) (Nat.le_of_ble_eq_true rfl) (Nat.le_of_ble_eq_true rfl) ?_
  refine va_putF (D := D) (ci := 1) (v := .ref q3) (ty := tyX1 7) (C := RX1) (T := TX1) (N := 13) hx hb hts hin0 tyX1 tyX1_ok nmX1 hown hK hP hD hS 0 rfl rfl 7 (by decide) (hts (.fieldLink RX1 20 "GossipScheduleModel" "calleeOf" "[I") (by decide +kernel)) (fun _ h9 => h9) rfl hin rfl (by decide +kernel) rfl rfl (Nat.le_of_ble_eq_true rfl) dX1_init_30 (fun H locs hP hD hS => ?_)
  have hP : va_P D vwCl [(h0, .inr (1, [.int (nI 2), .int 0, .int 0, .int 0, .int 0, .ref q1, .ref q2, .ref q3, .null, .int 0, .null, .null, .long 0])), (q1, .inl (c1, (28, .inl (fun _ => 0)))), (q2, .inl (c2, (28, .inl (fun _ => 0)))), (q3, .inl (c3, (28, .inl (fun _ => 0))))] H := hP
  have hD : va_D A [(h0, .inr (1, [.int (nI 2), .int 0, .int 0, .int 0, .int 0, .ref q1, .ref q2, .ref q3, .null, .int 0, .null, .null, .long 0])), (q1, .inl (c1, (28, .inl (fun _ => 0)))), (q2, .inl (c2, (28, .inl (fun _ => 0)))), (q3, .inl (c3, (28, .inl (fun _ => 0))))] := hD
  refine lv_aload_n hx hb dX1_init_33 rfl (lv_at hl 0 rfl) ?_
  refine lv_bipush (v := nI 28) hx hb dX1_init_34 (by decide) ?_
  refine va_newa (atype := .boolean) (ty := .boolean) (n := nI 28) (N' := 28) (a0 := (28, .inl (fun _ => 0))) hx hb (hts (.arrayClass .boolean) (by decide +kernel)) rfl hK hP hD hS hA (fun _ => rfl) (by decide) (by decide) (Nat.le_of_ble_eq_true rfl) (Nat.le_of_ble_eq_true rfl) (Nat.le_of_ble_eq_true rfl) dX1_init_36 (fun q4 c4 H hK hP hD hS => ?_)
  have hK : va_K D vwCl [(c1, .int), (c2, .int), (c3, .int), (c4, .boolean)] s := hK
  have hP : va_P D vwCl [(h0, .inr (1, [.int (nI 2), .int 0, .int 0, .int 0, .int 0, .ref q1, .ref q2, .ref q3, .null, .int 0, .null, .null, .long 0])), (q1, .inl (c1, (28, .inl (fun _ => 0)))), (q2, .inl (c2, (28, .inl (fun _ => 0)))), (q3, .inl (c3, (28, .inl (fun _ => 0)))), (q4, .inl (c4, (28, .inl (fun _ => 0))))] H := hP
  have hD : va_D A [(h0, .inr (1, [.int (nI 2), .int 0, .int 0, .int 0, .int 0, .ref q1, .ref q2, .ref q3, .null, .int 0, .null, .null, .long 0])), (q1, .inl (c1, (28, .inl (fun _ => 0)))), (q2, .inl (c2, (28, .inl (fun _ => 0)))), (q3, .inl (c3, (28, .inl (fun _ => 0)))), (q4, .inl (c4, (28, .inl (fun _ => 0))))] := hD
  refine W.widen (k := 4) (n := 112) (Nat.le_of_ble_eq_true rfl) (Nat.le_of_ble_eq_true rfl) ?_
  refine va_putF (D := D) (ci := 1) (v := .ref q4) (ty := tyX1 8) (C := RX1) (T := TX1) (N := 13) hx hb hts hin0 tyX1 tyX1_ok nmX1 hown hK hP hD hS 0 rfl rfl 8 (by decide) (hts (.fieldLink RX1 23 "GossipScheduleModel" "isOneWay" "[Z") (by decide +kernel)) (fun _ h9 => h9) rfl hin rfl (by decide +kernel) rfl rfl (Nat.le_of_ble_eq_true rfl) dX1_init_38 (fun H locs hP hD hS => ?_)
  have hP : va_P D vwCl [(h0, .inr (1, [.int (nI 2), .int 0, .int 0, .int 0, .int 0, .ref q1, .ref q2, .ref q3, .ref q4, .int 0, .null, .null, .long 0])), (q1, .inl (c1, (28, .inl (fun _ => 0)))), (q2, .inl (c2, (28, .inl (fun _ => 0)))), (q3, .inl (c3, (28, .inl (fun _ => 0)))), (q4, .inl (c4, (28, .inl (fun _ => 0))))] H := hP
  have hD : va_D A [(h0, .inr (1, [.int (nI 2), .int 0, .int 0, .int 0, .int 0, .ref q1, .ref q2, .ref q3, .ref q4, .int 0, .null, .null, .long 0])), (q1, .inl (c1, (28, .inl (fun _ => 0)))), (q2, .inl (c2, (28, .inl (fun _ => 0)))), (q3, .inl (c3, (28, .inl (fun _ => 0)))), (q4, .inl (c4, (28, .inl (fun _ => 0))))] := hD
  refine lv_aload_n hx hb dX1_init_41 rfl (lv_at hl 0 rfl) ?_
  refine lv_bipush (v := nI 59) hx hb dX1_init_42 (by decide) ?_
  refine va_newa (atype := .int) (ty := .int) (n := nI 59) (N' := 59) (a0 := (59, .inl (fun _ => 0))) hx hb (hts (.arrayClass .int) (by decide +kernel)) rfl hK hP hD hS hA (fun _ => rfl) (by decide) (by decide) (Nat.le_of_ble_eq_true rfl) (Nat.le_of_ble_eq_true rfl) (Nat.le_of_ble_eq_true rfl) dX1_init_44 (fun q5 c5 H hK hP hD hS => ?_)
  have hK : va_K D vwCl [(c1, .int), (c2, .int), (c3, .int), (c4, .boolean), (c5, .int)] s := hK
  have hP : va_P D vwCl [(h0, .inr (1, [.int (nI 2), .int 0, .int 0, .int 0, .int 0, .ref q1, .ref q2, .ref q3, .ref q4, .int 0, .null, .null, .long 0])), (q1, .inl (c1, (28, .inl (fun _ => 0)))), (q2, .inl (c2, (28, .inl (fun _ => 0)))), (q3, .inl (c3, (28, .inl (fun _ => 0)))), (q4, .inl (c4, (28, .inl (fun _ => 0)))), (q5, .inl (c5, (59, .inl (fun _ => 0))))] H := hP
  have hD : va_D A [(h0, .inr (1, [.int (nI 2), .int 0, .int 0, .int 0, .int 0, .ref q1, .ref q2, .ref q3, .ref q4, .int 0, .null, .null, .long 0])), (q1, .inl (c1, (28, .inl (fun _ => 0)))), (q2, .inl (c2, (28, .inl (fun _ => 0)))), (q3, .inl (c3, (28, .inl (fun _ => 0)))), (q4, .inl (c4, (28, .inl (fun _ => 0)))), (q5, .inl (c5, (59, .inl (fun _ => 0))))] := hD
  refine W.widen (k := 5) (n := 171) (Nat.le_of_ble_eq_true rfl) (Nat.le_of_ble_eq_true rfl) ?_
  refine va_putF (D := D) (ci := 1) (v := .ref q5) (ty := tyX1 10) (C := RX1) (T := TX1) (N := 13) hx hb hts hin0 tyX1 tyX1_ok nmX1 hown hK hP hD hS 0 rfl rfl 10 (by decide) (hts (.fieldLink RX1 27 "GossipScheduleModel" "buffer" "[I") (by decide +kernel)) (fun _ h9 => h9) rfl hin rfl (by decide +kernel) rfl rfl (Nat.le_of_ble_eq_true rfl) dX1_init_46 (fun H locs hP hD hS => ?_)
  have hP : va_P D vwCl [(h0, .inr (1, [.int (nI 2), .int 0, .int 0, .int 0, .int 0, .ref q1, .ref q2, .ref q3, .ref q4, .int 0, .ref q5, .null, .long 0])), (q1, .inl (c1, (28, .inl (fun _ => 0)))), (q2, .inl (c2, (28, .inl (fun _ => 0)))), (q3, .inl (c3, (28, .inl (fun _ => 0)))), (q4, .inl (c4, (28, .inl (fun _ => 0)))), (q5, .inl (c5, (59, .inl (fun _ => 0))))] H := hP
  have hD : va_D A [(h0, .inr (1, [.int (nI 2), .int 0, .int 0, .int 0, .int 0, .ref q1, .ref q2, .ref q3, .ref q4, .int 0, .ref q5, .null, .long 0])), (q1, .inl (c1, (28, .inl (fun _ => 0)))), (q2, .inl (c2, (28, .inl (fun _ => 0)))), (q3, .inl (c3, (28, .inl (fun _ => 0)))), (q4, .inl (c4, (28, .inl (fun _ => 0)))), (q5, .inl (c5, (59, .inl (fun _ => 0))))] := hD
  refine lv_aload_n hx hb dX1_init_49 rfl (lv_at hl 0 rfl) ?_
  refine lv_bipush (v := nI 8) hx hb dX1_init_50 (by decide) ?_
  refine va_newa (atype := .int) (ty := .int) (n := nI 8) (N' := 8) (a0 := (8, .inl (fun _ => 0))) hx hb (hts (.arrayClass .int) (by decide +kernel)) rfl hK hP hD hS hA (fun _ => rfl) (by decide) (by decide) (Nat.le_of_ble_eq_true rfl) (Nat.le_of_ble_eq_true rfl) (Nat.le_of_ble_eq_true rfl) dX1_init_52 (fun q6 c6 H hK hP hD hS => ?_)
  have hK : va_K D vwCl [(c1, .int), (c2, .int), (c3, .int), (c4, .boolean), (c5, .int), (c6, .int)] s := hK
  have hP : va_P D vwCl [(h0, .inr (1, [.int (nI 2), .int 0, .int 0, .int 0, .int 0, .ref q1, .ref q2, .ref q3, .ref q4, .int 0, .ref q5, .null, .long 0])), (q1, .inl (c1, (28, .inl (fun _ => 0)))), (q2, .inl (c2, (28, .inl (fun _ => 0)))), (q3, .inl (c3, (28, .inl (fun _ => 0)))), (q4, .inl (c4, (28, .inl (fun _ => 0)))), (q5, .inl (c5, (59, .inl (fun _ => 0)))), (q6, .inl (c6, (8, .inl (fun _ => 0))))] H := hP
  have hD : va_D A [(h0, .inr (1, [.int (nI 2), .int 0, .int 0, .int 0, .int 0, .ref q1, .ref q2, .ref q3, .ref q4, .int 0, .ref q5, .null, .long 0])), (q1, .inl (c1, (28, .inl (fun _ => 0)))), (q2, .inl (c2, (28, .inl (fun _ => 0)))), (q3, .inl (c3, (28, .inl (fun _ => 0)))), (q4, .inl (c4, (28, .inl (fun _ => 0)))), (q5, .inl (c5, (59, .inl (fun _ => 0)))), (q6, .inl (c6, (8, .inl (fun _ => 0))))] := hD
  refine W.widen (k := 6) (n := 179) (Nat.le_of_ble_eq_true rfl) (Nat.le_of_ble_eq_true rfl) ?_
  refine va_putF (D := D) (ci := 1) (v := .ref q6) (ty := tyX1 11) (C := RX1) (T := TX1) (N := 13) hx hb hts hin0 tyX1 tyX1_ok nmX1 hown hK hP hD hS 0 rfl rfl 11 (by decide) (hts (.fieldLink RX1 30 "GossipScheduleModel" "known" "[I") (by decide +kernel)) (fun _ h9 => h9) rfl hin rfl (by decide +kernel) rfl rfl (Nat.le_of_ble_eq_true rfl) dX1_init_54 (fun H locs hP hD hS => ?_)
  have hP : va_P D vwCl [(h0, .inr (1, [.int (nI 2), .int 0, .int 0, .int 0, .int 0, .ref q1, .ref q2, .ref q3, .ref q4, .int 0, .ref q5, .ref q6, .long 0])), (q1, .inl (c1, (28, .inl (fun _ => 0)))), (q2, .inl (c2, (28, .inl (fun _ => 0)))), (q3, .inl (c3, (28, .inl (fun _ => 0)))), (q4, .inl (c4, (28, .inl (fun _ => 0)))), (q5, .inl (c5, (59, .inl (fun _ => 0)))), (q6, .inl (c6, (8, .inl (fun _ => 0))))] H := hP
  have hD : va_D A [(h0, .inr (1, [.int (nI 2), .int 0, .int 0, .int 0, .int 0, .ref q1, .ref q2, .ref q3, .ref q4, .int 0, .ref q5, .ref q6, .long 0])), (q1, .inl (c1, (28, .inl (fun _ => 0)))), (q2, .inl (c2, (28, .inl (fun _ => 0)))), (q3, .inl (c3, (28, .inl (fun _ => 0)))), (q4, .inl (c4, (28, .inl (fun _ => 0)))), (q5, .inl (c5, (59, .inl (fun _ => 0)))), (q6, .inl (c6, (8, .inl (fun _ => 0))))] := hD
  have hP9 : va_P D vwCl (wM h0 (six q1 q2 q3 q4 q5 q6) (six c1 c2 c3 c4 c5 c6) uM0) H := hP
  have hD9 : va_D A (wM h0 (six q1 q2 q3 q4 q5 q6) (six c1 c2 c3 c4 c5 c6) uM0) := hD
  have hK9 : va_K D vwCl (tM (six c1 c2 c3 c4 c5 c6)) s := hK
  exact W.vret hx hb hr (fun t ht hW => ⟨⟨(), rfl, trivial, q1, q2, q3, q4, q5, q6, c1, c2, c3, c4, c5, c6, by rw [ht]; exact hP9, va_K.moved hW.alike hK9, hD9⟩, hS.F ht⟩) hS.2.2 dX1_init_57 hlocks
