/-! ===== part 90: the law, from its entry ===== -/
theorem zX_ok : ∀ j, j < 12 → defaultValue (tyX0 j) = vp_V zX j := fun j hj => by
  match j, hj with
  | 0, _ => rfl
  | 1, _ => rfl
  | 2, _ => rfl
  | 3, _ => rfl
  | 4, _ => rfl
  | 5, _ => rfl
  | 6, _ => rfl
  | 7, _ => rfl
  | 8, _ => rfl
  | 9, _ => rfl
  | 10, _ => rfl
  | 11, _ => rfl
  | n + 12, h => exact absurd h (by omega)
theorem zM_ok : ∀ j, j < 13 → defaultValue (tyX1 j) = vp_V zM j := fun j hj => by
  match j, hj with
  | 0, _ => rfl
  | 1, _ => rfl
  | 2, _ => rfl
  | 3, _ => rfl
  | 4, _ => rfl
  | 5, _ => rfl
  | 6, _ => rfl
  | 7, _ => rfl
  | 8, _ => rfl
  | 9, _ => rfl
  | 10, _ => rfl
  | 11, _ => rfl
  | 12, _ => rfl
  | n + 13, h => exact absurd h (by omega)
set_option maxHeartbeats 4000000 in
set_option maxRecDepth 100000 in
theorem whole_start {p : Program} {e : Env} {s : State} {m : MethodId} {below : List Frame} {meth : Method} {c : Code} (l : Launch) (hflags : l.flags = flags0) {b L : Nat} {xs : Nat → Int32} (hL : L ≤ 2048) (C0 : lw_At p s m meth c b L xs) : W p l e room_1 s m #[Value.ref b] below meth c s.heap [] 0 0 (lw_Z below #[Value.ref b] s) (entryFrame m ([Value.ref b] : List Value).toArray 4) := by
  obtain ⟨hx, hb, hr, hml, hown, hts0, hX, hbl, hlocks, hgv⟩ := id C0
  have hts : ∀ w ∈ wsL_law, w.before #[Value.ref b] s = true := fun w h => hts0 w (wsL_law_in w h)
  have hown : s.vm.findClass RL = some m.cls := hown
  have F : CallFix p m c cL_law 4 s #[Value.ref b] wsL_law RL := ⟨hx, hb, hml, hown, hts⟩
  have hA : ∀ q : Nat, s.heap.size ≤ q → nA s q := fun _ h => h
  obtain ⟨c0, iS0, hKn0⟩ := u_known (C := RX0) (T := TX0) (N := 12) (n := 12) hts inlX0 (hts (.instantiable RX0 12) (List.mem_of_getElem? (i := 1) (by decide +kernel)))
  obtain ⟨c1, iS1, hKn1⟩ := u_known (C := RX1) (T := TX1) (N := 13) (n := 13) hts inlX1 (hts (.instantiable RX1 13) (List.mem_of_getElem? (i := 4) (by decide +kernel)))
  obtain ⟨D, hKc⟩ : ∃ D : va_G, ∀ (k : Nat) (q : vw_C), vwCl[k]? = some q → u_Kn s q.1 q.2.1 q.2.2 (D.1 k) (D.2 k) := by
    refine ⟨(fun k => if k = 0 then c0 else c1, fun k => if k = 0 then iS0 else iS1), ?_⟩
    intro k q hq
    match k, hq with
    | 0, hq => cases hq; exact hKn0
    | 1, hq => cases hq; exact hKn1
    | k + 2, hq => simp [vwCl] at hq
  have hS : va_S (nA s) s.heap s.heap [] := va_S.rf
  have hK : va_K D vwCl [] s := ⟨hKc, fun k q h => by simp at h⟩
  have hP : va_P D vwCl [] s.heap := fun k q h => by simp at h
  have hD : va_D (nA s) [] := ⟨fun i j p q h => by simp at h, fun k q h => by simp at h⟩
  have hl := lv_entry ([.ref b]) (n := 4) (Nat.le_of_ble_eq_true rfl)
  rw [lg_entry_eq]
  generalize (lg_sl ([.ref b]) ++ List.replicate (4 - (lg_sl ([.ref b])).length) Slot.unset).toArray = ls at hl ⊢
  have hl : lv_has ls 4 [(0, .ref b)] := hl
  refine va_new (ci := 0) (fs := zX) (C := RX0) (T := TX0) (N := 12) hx hb hts inlX0 tyX0 tyX0_ok hown (hts (.classLink RL 7 RX0) (List.mem_of_getElem? (i := 0) (by decide +kernel))) (hts (.instantiable RX0 12) (List.mem_of_getElem? (i := 1) (by decide +kernel))) (hts (.initialized RX0) (List.mem_of_getElem? (i := 2) (by decide +kernel))) hK hP hD hS hA rfl zX_ok (Nat.le_of_ble_eq_true rfl) (Nat.le_of_ble_eq_true rfl) dL_law_0 (fun oX H hP hD hS => ?_)
  have hP : va_P D vwCl ([(oX, .inr (0, zX))]) H := hP
  have hD : va_D (nA s) ([(oX, .inr (0, zX))]) := hD
  refine W.widen (k := 1) (n := 12) (Nat.le_of_ble_eq_true rfl) (Nat.le_of_ble_eq_true rfl) ?_
  refine lv_dup hx hb dL_law_3 rfl ?_
  have hPc := hP.sub (ws' := [(oX, .inr (0, zX))]) [0] rfl
  have hDc := hD.sub (ws' := [(oX, .inr (0, zX))]) [0] (by decide) rfl
  have hFc := va_free (wc := [(oX, .inr (0, zX))]) hD hS hA [0] rfl
  refine va_callv (va_runI (As := []) (rest := [.ref oX]) F (c_X0_init l D oX H.size) (cwI 0 hts gL_law_X0_init rfl rfl rfl (hts (.initialized RX0) (List.mem_of_getElem? (i := 2) (by decide +kernel))) (hts (.methodLink RL 9 yX0_init) (List.mem_of_getElem? (i := 6) (by decide +kernel))) (hts (.instanceMethod yX0_init) (List.mem_of_getElem? (i := 7) (by decide +kernel))) rfl (by decide +kernel) ⟨Nat.le_of_ble_eq_true rfl, Nat.le_of_ble_eq_true rfl⟩) ⟨fun a U g mk q => by obtain ⟨q0, q1, qP, qK, qD⟩ := q; exact ⟨q0, q1, qP, va_K.moved (u := U) (U := U.calling g mk a) (Vm.Alike.refl U.vm) qK, qD⟩, fun U hU hW => ⟨rfl, by rw [hU], by rw [hU]; exact hPc, va_K.moved hW.alike hK, hDc.weaken (fun _ _ _ _ => trivial)⟩⟩ rfl rfl hl.1 rfl (lv_room (Nat.le_of_ble_eq_true rfl)) dL_law_4 ⟨Nat.le_of_ble_eq_true rfl, Nat.le_of_ble_eq_true rfl⟩) hS (fun q _ h => hFc q h) hFc (fun u t H1 locs ht hvm hw hB hz1 hk1 hS => ?_)
  obtain ⟨q1, q2, q3, q4, q5, q6, a1, a2, a3, a4, a5, a6, hP1, hK1, hD1⟩ := hB
  rw [ht] at hP1
  have hKX := va_K.moved hvm.symm hK1
  obtain ⟨hP, hD⟩ := va_join (wr := []) (w1 := wX oX (six q1 q2 q3 q4 q5 q6) (six a1 a2 a3 a4 a5 a6) uX0) hP hD [0] [] rfl rfl (by decide) (by decide) hk1 hFc hP1 hD1
  generalize H1 = H at hP hS ⊢
  have hP : va_P D vwCl (wX oX (six q1 q2 q3 q4 q5 q6) (six a1 a2 a3 a4 a5 a6) uX0) H := hP
  have hD : va_D (nA s) (wX oX (six q1 q2 q3 q4 q5 q6) (six a1 a2 a3 a4 a5 a6) uX0) := hD
  refine W.widen (k := 7) (n := 4279) (Nat.le_of_ble_eq_true rfl) (Nat.le_of_ble_eq_true rfl) ?_
  refine lv_astore_n (lv' := [(1, .ref oX), (0, .ref b)]) hx hb dL_law_7 rfl hl (by decide) rfl (fun ls hl => ?_)
  refine va_new (ci := 1) (fs := zM) (C := RX1) (T := TX1) (N := 13) hx hb hts inlX1 tyX1 tyX1_ok hown (hts (.classLink RL 10 RX1) (List.mem_of_getElem? (i := 3) (by decide +kernel))) (hts (.instantiable RX1 13) (List.mem_of_getElem? (i := 4) (by decide +kernel))) (hts (.initialized RX1) (List.mem_of_getElem? (i := 5) (by decide +kernel))) hK hP hD hS hA rfl zM_ok (Nat.le_of_ble_eq_true rfl) (Nat.le_of_ble_eq_true rfl) dL_law_8 (fun oM H hP hD hS => ?_)
  have hP : va_P D vwCl (wX oX (six q1 q2 q3 q4 q5 q6) (six a1 a2 a3 a4 a5 a6) uX0 ++ [(oM, .inr (1, zM))]) H := hP
  have hD : va_D (nA s) (wX oX (six q1 q2 q3 q4 q5 q6) (six a1 a2 a3 a4 a5 a6) uX0 ++ [(oM, .inr (1, zM))]) := hD
  refine W.widen (k := 8) (n := 4292) (Nat.le_of_ble_eq_true rfl) (Nat.le_of_ble_eq_true rfl) ?_
  refine lv_dup hx hb dL_law_11 rfl ?_
  have hPc := hP.sub (ws' := [(oM, .inr (1, zM))]) [7] rfl
  have hDc := hD.sub (ws' := [(oM, .inr (1, zM))]) [7] (by decide) rfl
  have hFc := va_free (wc := [(oM, .inr (1, zM))]) hD hS hA [7] rfl
  refine va_callv (va_runI (As := []) (rest := [.ref oM]) F (c_X1_init l D oM H.size) (cwI 0 hts gL_law_X1_init rfl rfl rfl (hts (.initialized RX1) (List.mem_of_getElem? (i := 5) (by decide +kernel))) (hts (.methodLink RL 12 yX1_init) (List.mem_of_getElem? (i := 24) (by decide +kernel))) (hts (.instanceMethod yX1_init) (List.mem_of_getElem? (i := 25) (by decide +kernel))) rfl (by decide +kernel) ⟨Nat.le_of_ble_eq_true rfl, Nat.le_of_ble_eq_true rfl⟩) ⟨fun a U g mk q => by obtain ⟨q0, q1, qP, qK, qD⟩ := q; exact ⟨q0, q1, qP, va_K.moved (u := U) (U := U.calling g mk a) (Vm.Alike.refl U.vm) qK, qD⟩, fun U hU hW => ⟨rfl, by rw [hU], by rw [hU]; exact hPc, va_K.moved hW.alike hK, hDc.weaken (fun _ _ _ _ => trivial)⟩⟩ rfl rfl hl.1 rfl (lv_room (Nat.le_of_ble_eq_true rfl)) dL_law_12 ⟨Nat.le_of_ble_eq_true rfl, Nat.le_of_ble_eq_true rfl⟩) hS (fun q _ h => hFc q h) hFc (fun u t H1 locs ht hvm hw hB hz1 hk1 hS => ?_)
  obtain ⟨r1, r2, r3, r4, r5, r6, d1, d2, d3, d4, d5, d6, hP1, hK1, hD1⟩ := hB
  rw [ht] at hP1
  have hKM := va_K.moved hvm.symm hK1
  obtain ⟨hP, hD⟩ := va_join (wr := wX oX (six q1 q2 q3 q4 q5 q6) (six a1 a2 a3 a4 a5 a6) uX0) (w1 := wM oM (six r1 r2 r3 r4 r5 r6) (six d1 d2 d3 d4 d5 d6) uM0) hP hD [7] [0, 1, 2, 3, 4, 5, 6] rfl rfl (by decide) (by decide) hk1 hFc hP1 hD1
  generalize H1 = H at hP hS ⊢
  have hP : va_P D vwCl (wX oX (six q1 q2 q3 q4 q5 q6) (six a1 a2 a3 a4 a5 a6) uX0 ++ wM oM (six r1 r2 r3 r4 r5 r6) (six d1 d2 d3 d4 d5 d6) uM0) H := hP
  have hD : va_D (nA s) (wX oX (six q1 q2 q3 q4 q5 q6) (six a1 a2 a3 a4 a5 a6) uX0 ++ wM oM (six r1 r2 r3 r4 r5 r6) (six d1 d2 d3 d4 d5 d6) uM0) := hD
  refine W.widen (k := 14) (n := 4471) (Nat.le_of_ble_eq_true rfl) (Nat.le_of_ble_eq_true rfl) ?_
  refine lv_astore_n (lv' := [(2, .ref oM), (1, .ref oX), (0, .ref b)]) hx hb dL_law_15 rfl hl (by decide) rfl (fun ls hl => ?_)
  refine lv_iconst (v := nI 0) hx hb dL_law_16 (by decide) ?_
  refine lv_istore_n (lv' := [(3, .int (nI 0)), (2, .ref oM), (1, .ref oX), (0, .ref b)]) hx hb dL_law_17 rfl hl (by decide) rfl (fun ls hl => ?_)
  exact lw_loop l ⟨F, hKX, hKM, aXA, aMA, hX, hbl, hL⟩ hr hlocks (L + 5) 0 G0 _ _ _ ok_0 (by omega) (by omega) H _ ls ⟨hP, hD, hS⟩ (lv_sub hl [3, 2, 1, 0] rfl)
