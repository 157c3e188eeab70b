/-! ===== part 83: cases of the law's switch ===== -/
set_option maxHeartbeats 4000000 in
set_option maxRecDepth 100000 in
theorem lc_newSchedule {p : Program} {e : Env} {s : State} {m : MethodId} {args : Array Value} {below : List Frame} {meth : Method} {c : Code} {Q : State → Prop} {D : va_G} {b L : Nat} {xs : Nat → Int32} {hX : Nat} {qX : Nat → Nat} {cX : Nat → ClassId} {hM : Nat} {qM : Nat → Nat} {cM : Nat → ClassId} (l : Launch) (C0 : LC p m c s args D b L xs hX qX cX hM qM cM) {i : Nat} (hi : i + 4 ≤ L) {G : GS} {Lx K : Nat → Nat} {hs : Int64} (hG : ok G) (kk : ∀ (G' : GS) (L' K' : Nat → Nat) (hs' : Int64), ok G' → LV p l e s m args below meth c Q D b hX qX cX hM qM cM i (G', L') (G', K', hs') 684 []) : LV p l e s m args below meth c Q D b hX qX cX hM qM cM i (G, Lx) (G, K, hs) 152 [] := by
  obtain ⟨F, hKX, hKM, aX1, aM1, hXs, hbl, hL⟩ := C0
  unfold LV at *
  refine x_aload_n (pc := 152) F dL_law_152 1 rfl rfl ?_
  refine x_aload_n (pc := 153) F dL_law_153 0 rfl rfl ?_
  refine x_iload_n (pc := 154) F dL_law_154 3 rfl rfl ?_
  refine x_iconst (v := nI 1) (pc := 155) F dL_law_155 (by decide) ?_
  refine x_iadd (z := nI (i + 1)) (pc := 156) F dL_law_156 (nI_add _ _) ?_
  refine y_sld (pc := 157) F hXs hbl hL (by omega) dL_law_157 ?_
  refine x_aload_n (pc := 158) F dL_law_158 0 rfl rfl ?_
  refine x_iload_n (pc := 159) F dL_law_159 3 rfl rfl ?_
  refine x_iconst (v := nI 2) (pc := 160) F dL_law_160 (by decide) ?_
  refine x_iadd (z := nI (i + 2)) (pc := 161) F dL_law_161 (nI_add _ _) ?_
  refine y_sld (pc := 162) F hXs hbl hL (by omega) dL_law_162 ?_
  refine y_calli (w := wX) (ty := tX) (pc := 163) F hKX wX_in aX1 rfl rfl [.int (xs (i + 1)), .int (xs (i + 2))] [] (c_X0_newSchedule l G Lx (xs (i + 1)) (xs (i + 2))) (cwV 2 F.2.2.2.2 gL_law_X0_newSchedule rfl rfl rfl (by decide +kernel) ⟨Nat.le_of_ble_eq_true rfl, Nat.le_of_ble_eq_true rfl⟩) rfl rfl rfl rfl (Nat.le_of_ble_eq_true rfl) dL_law_163 ⟨Nat.le_of_ble_eq_true rfl, Nat.le_of_ble_eq_true rfl⟩ ?_
  rintro _ _ ⟨rfl, rfl⟩
  refine x_aload_n (pc := 166) F dL_law_166 2 rfl rfl ?_
  refine x_aload_n (pc := 167) F dL_law_167 0 rfl rfl ?_
  refine x_iload_n (pc := 168) F dL_law_168 3 rfl rfl ?_
  refine x_iconst (v := nI 1) (pc := 169) F dL_law_169 (by decide) ?_
  refine x_iadd (z := nI (i + 1)) (pc := 170) F dL_law_170 (nI_add _ _) ?_
  refine y_sld (pc := 171) F hXs hbl hL (by omega) dL_law_171 ?_
  refine x_aload_n (pc := 172) F dL_law_172 0 rfl rfl ?_
  refine x_iload_n (pc := 173) F dL_law_173 3 rfl rfl ?_
  refine x_iconst (v := nI 2) (pc := 174) F dL_law_174 (by decide) ?_
  refine x_iadd (z := nI (i + 2)) (pc := 175) F dL_law_175 (nI_add _ _) ?_
  refine y_sld (pc := 176) F hXs hbl hL (by omega) dL_law_176 ?_
  refine y_calli (w := wM) (ty := tM) (pc := 177) F hKM wM_in aM1 rfl rfl [.int (xs (i + 1)), .int (xs (i + 2))] [_] (c_X1_newSchedule l G K hs (xs (i + 1)) (xs (i + 2))) (cwV 2 F.2.2.2.2 gL_law_X1_newSchedule rfl rfl rfl (by decide +kernel) ⟨Nat.le_of_ble_eq_true rfl, Nat.le_of_ble_eq_true rfl⟩) rfl rfl rfl rfl (Nat.le_of_ble_eq_true rfl) dL_law_177 ⟨Nat.le_of_ble_eq_true rfl, Nat.le_of_ble_eq_true rfl⟩ ?_
  rintro _ _ ⟨rfl, rfl⟩
  refine x_icmp_eq (tgt := 684) (pc := 180) F dL_law_180 (by decide) (fun _ => ?_) (fun hv => absurd rfl hv)
  exact kk (sg_newSchedule G (xs (i + 1)) (xs (i + 2))) Lx K hs (ok_newSchedule hG _ _)
set_option maxHeartbeats 4000000 in
set_option maxRecDepth 100000 in
theorem lc_setGraph {p : Program} {e : Env} {s : State} {m : MethodId} {args : Array Value} {below : List Frame} {meth : Method} {c : Code} {Q : State → Prop} {D : va_G} {b L : Nat} {xs : Nat → Int32} {hX : Nat} {qX : Nat → Nat} {cX : Nat → ClassId} {hM : Nat} {qM : Nat → Nat} {cM : Nat → ClassId} (l : Launch) (C0 : LC p m c s args D b L xs hX qX cX hM qM cM) {i : Nat} (hi : i + 4 ≤ L) {G : GS} {Lx K : Nat → Nat} {hs : Int64} (hG : ok G) (kk : ∀ (G' : GS) (L' K' : Nat → Nat) (hs' : Int64), ok G' → LV p l e s m args below meth c Q D b hX qX cX hM qM cM i (G', L') (G', K', hs') 684 []) : LV p l e s m args below meth c Q D b hX qX cX hM qM cM i (G, Lx) (G, K, hs) 185 [] := by
  obtain ⟨F, hKX, hKM, aX1, aM1, hXs, hbl, hL⟩ := C0
  unfold LV at *
  refine x_aload_n (pc := 185) F dL_law_185 1 rfl rfl ?_
  refine x_aload_n (pc := 186) F dL_law_186 0 rfl rfl ?_
  refine x_iload_n (pc := 187) F dL_law_187 3 rfl rfl ?_
  refine x_iconst (v := nI 1) (pc := 188) F dL_law_188 (by decide) ?_
  refine x_iadd (z := nI (i + 1)) (pc := 189) F dL_law_189 (nI_add _ _) ?_
  refine y_sld (pc := 190) F hXs hbl hL (by omega) dL_law_190 ?_
  refine y_calli (w := wX) (ty := tX) (pc := 191) F hKX wX_in aX1 rfl rfl [.int (xs (i + 1))] [] (c_X0_setGraph l G Lx (xs (i + 1)) hG) (cwV 1 F.2.2.2.2 gL_law_X0_setGraph rfl rfl rfl (by decide +kernel) ⟨Nat.le_of_ble_eq_true rfl, Nat.le_of_ble_eq_true rfl⟩) rfl rfl rfl rfl (Nat.le_of_ble_eq_true rfl) dL_law_191 ⟨Nat.le_of_ble_eq_true rfl, Nat.le_of_ble_eq_true rfl⟩ ?_
  rintro _ _ ⟨rfl, rfl⟩
  refine x_aload_n (pc := 194) F dL_law_194 2 rfl rfl ?_
  refine x_aload_n (pc := 195) F dL_law_195 0 rfl rfl ?_
  refine x_iload_n (pc := 196) F dL_law_196 3 rfl rfl ?_
  refine x_iconst (v := nI 1) (pc := 197) F dL_law_197 (by decide) ?_
  refine x_iadd (z := nI (i + 1)) (pc := 198) F dL_law_198 (nI_add _ _) ?_
  refine y_sld (pc := 199) F hXs hbl hL (by omega) dL_law_199 ?_
  refine y_calli (w := wM) (ty := tM) (pc := 200) F hKM wM_in aM1 rfl rfl [.int (xs (i + 1))] [_] (c_X1_setGraph l G K hs (xs (i + 1)) hG) (cwV 1 F.2.2.2.2 gL_law_X1_setGraph rfl rfl rfl (by decide +kernel) ⟨Nat.le_of_ble_eq_true rfl, Nat.le_of_ble_eq_true rfl⟩) rfl rfl rfl rfl (Nat.le_of_ble_eq_true rfl) dL_law_200 ⟨Nat.le_of_ble_eq_true rfl, Nat.le_of_ble_eq_true rfl⟩ ?_
  rintro _ _ ⟨rfl, rfl⟩
  refine x_icmp_eq (tgt := 684) (pc := 203) F dL_law_203 (by decide) (fun _ => ?_) (fun hv => absurd rfl hv)
  exact kk (sg_setGraph G (xs (i + 1))) Lx K hs (ok_setGraph hG _)
set_option maxHeartbeats 4000000 in
set_option maxRecDepth 100000 in
theorem lc_areNeighbors {p : Program} {e : Env} {s : State} {m : MethodId} {args : Array Value} {below : List Frame} {meth : Method} {c : Code} {Q : State → Prop} {D : va_G} {b L : Nat} {xs : Nat → Int32} {hX : Nat} {qX : Nat → Nat} {cX : Nat → ClassId} {hM : Nat} {qM : Nat → Nat} {cM : Nat → ClassId} (l : Launch) (C0 : LC p m c s args D b L xs hX qX cX hM qM cM) {i : Nat} (hi : i + 4 ≤ L) {G : GS} {Lx K : Nat → Nat} {hs : Int64} (hG : ok G) (kk : ∀ (G' : GS) (L' K' : Nat → Nat) (hs' : Int64), ok G' → LV p l e s m args below meth c Q D b hX qX cX hM qM cM i (G', L') (G', K', hs') 684 []) : LV p l e s m args below meth c Q D b hX qX cX hM qM cM i (G, Lx) (G, K, hs) 208 [] := by
  obtain ⟨F, hKX, hKM, aX1, aM1, hXs, hbl, hL⟩ := C0
  unfold LV at *
  refine x_aload_n (pc := 208) F dL_law_208 1 rfl rfl ?_
  refine x_aload_n (pc := 209) F dL_law_209 0 rfl rfl ?_
  refine x_iload_n (pc := 210) F dL_law_210 3 rfl rfl ?_
  refine x_iconst (v := nI 1) (pc := 211) F dL_law_211 (by decide) ?_
  refine x_iadd (z := nI (i + 1)) (pc := 212) F dL_law_212 (nI_add _ _) ?_
  refine y_sld (pc := 213) F hXs hbl hL (by omega) dL_law_213 ?_
  refine x_aload_n (pc := 214) F dL_law_214 0 rfl rfl ?_
  refine x_iload_n (pc := 215) F dL_law_215 3 rfl rfl ?_
  refine x_iconst (v := nI 2) (pc := 216) F dL_law_216 (by decide) ?_
  refine x_iadd (z := nI (i + 2)) (pc := 217) F dL_law_217 (nI_add _ _) ?_
  refine y_sld (pc := 218) F hXs hbl hL (by omega) dL_law_218 ?_
  refine y_calli (w := wX) (ty := tX) (pc := 219) F hKX wX_in aX1 rfl rfl [.int (xs (i + 1)), .int (xs (i + 2))] [] (c_X0_areNeighbors l G Lx (xs (i + 1)) (xs (i + 2)) hG) (cwV 2 F.2.2.2.2 gL_law_X0_areNeighbors rfl rfl rfl (by decide +kernel) ⟨Nat.le_of_ble_eq_true rfl, Nat.le_of_ble_eq_true rfl⟩) rfl rfl rfl rfl (Nat.le_of_ble_eq_true rfl) dL_law_219 ⟨Nat.le_of_ble_eq_true rfl, Nat.le_of_ble_eq_true rfl⟩ ?_
  rintro _ _ ⟨rfl, rfl⟩
  refine x_aload_n (pc := 222) F dL_law_222 2 rfl rfl ?_
  refine x_aload_n (pc := 223) F dL_law_223 0 rfl rfl ?_
  refine x_iload_n (pc := 224) F dL_law_224 3 rfl rfl ?_
  refine x_iconst (v := nI 1) (pc := 225) F dL_law_225 (by decide) ?_
  refine x_iadd (z := nI (i + 1)) (pc := 226) F dL_law_226 (nI_add _ _) ?_
  refine y_sld (pc := 227) F hXs hbl hL (by omega) dL_law_227 ?_
  refine x_aload_n (pc := 228) F dL_law_228 0 rfl rfl ?_
  refine x_iload_n (pc := 229) F dL_law_229 3 rfl rfl ?_
  refine x_iconst (v := nI 2) (pc := 230) F dL_law_230 (by decide) ?_
  refine x_iadd (z := nI (i + 2)) (pc := 231) F dL_law_231 (nI_add _ _) ?_
  refine y_sld (pc := 232) F hXs hbl hL (by omega) dL_law_232 ?_
  refine y_calli (w := wM) (ty := tM) (pc := 233) F hKM wM_in aM1 rfl rfl [.int (xs (i + 1)), .int (xs (i + 2))] [_] (c_X1_areNeighbors l G K hs (xs (i + 1)) (xs (i + 2)) hG) (cwV 2 F.2.2.2.2 gL_law_X1_areNeighbors rfl rfl rfl (by decide +kernel) ⟨Nat.le_of_ble_eq_true rfl, Nat.le_of_ble_eq_true rfl⟩) rfl rfl rfl rfl (Nat.le_of_ble_eq_true rfl) dL_law_233 ⟨Nat.le_of_ble_eq_true rfl, Nat.le_of_ble_eq_true rfl⟩ ?_
  rintro _ _ ⟨rfl, rfl⟩
  refine x_icmp_eq (tgt := 684) (pc := 236) F dL_law_236 (by decide) (fun _ => ?_) (fun hv => absurd rfl hv)
  exact kk G Lx K hs (hG)
set_option maxHeartbeats 4000000 in
set_option maxRecDepth 100000 in
theorem lc_addRound {p : Program} {e : Env} {s : State} {m : MethodId} {args : Array Value} {below : List Frame} {meth : Method} {c : Code} {Q : State → Prop} {D : va_G} {b L : Nat} {xs : Nat → Int32} {hX : Nat} {qX : Nat → Nat} {cX : Nat → ClassId} {hM : Nat} {qM : Nat → Nat} {cM : Nat → ClassId} (l : Launch) (C0 : LC p m c s args D b L xs hX qX cX hM qM cM) {i : Nat} (hi : i + 4 ≤ L) {G : GS} {Lx K : Nat → Nat} {hs : Int64} (hG : ok G) (kk : ∀ (G' : GS) (L' K' : Nat → Nat) (hs' : Int64), ok G' → LV p l e s m args below meth c Q D b hX qX cX hM qM cM i (G', L') (G', K', hs') 684 []) : LV p l e s m args below meth c Q D b hX qX cX hM qM cM i (G, Lx) (G, K, hs) 241 [] := by
  obtain ⟨F, hKX, hKM, aX1, aM1, hXs, hbl, hL⟩ := C0
  unfold LV at *
  refine x_aload_n (pc := 241) F dL_law_241 1 rfl rfl ?_
  refine y_calli (w := wX) (ty := tX) (pc := 242) F hKX wX_in aX1 rfl rfl [] [] (c_X0_addRound l G Lx hG) (cwV 0 F.2.2.2.2 gL_law_X0_addRound rfl rfl rfl (by decide +kernel) ⟨Nat.le_of_ble_eq_true rfl, Nat.le_of_ble_eq_true rfl⟩) rfl rfl rfl rfl (Nat.le_of_ble_eq_true rfl) dL_law_242 ⟨Nat.le_of_ble_eq_true rfl, Nat.le_of_ble_eq_true rfl⟩ ?_
  rintro _ _ ⟨rfl, rfl⟩
  refine x_aload_n (pc := 245) F dL_law_245 2 rfl rfl ?_
  refine y_calli (w := wM) (ty := tM) (pc := 246) F hKM wM_in aM1 rfl rfl [] [_] (c_X1_addRound l G K hs hG) (cwV 0 F.2.2.2.2 gL_law_X1_addRound rfl rfl rfl (by decide +kernel) ⟨Nat.le_of_ble_eq_true rfl, Nat.le_of_ble_eq_true rfl⟩) rfl rfl rfl rfl (Nat.le_of_ble_eq_true rfl) dL_law_246 ⟨Nat.le_of_ble_eq_true rfl, Nat.le_of_ble_eq_true rfl⟩ ?_
  rintro _ _ ⟨rfl, rfl⟩
  refine x_icmp_eq (tgt := 684) (pc := 249) F dL_law_249 (by decide) (fun _ => ?_) (fun hv => absurd rfl hv)
  exact kk (sg_addRound G) Lx K hs (ok_addRound hG)
set_option maxHeartbeats 4000000 in
set_option maxRecDepth 100000 in
theorem lc_addCall {p : Program} {e : Env} {s : State} {m : MethodId} {args : Array Value} {below : List Frame} {meth : Method} {c : Code} {Q : State → Prop} {D : va_G} {b L : Nat} {xs : Nat → Int32} {hX : Nat} {qX : Nat → Nat} {cX : Nat → ClassId} {hM : Nat} {qM : Nat → Nat} {cM : Nat → ClassId} (l : Launch) (C0 : LC p m c s args D b L xs hX qX cX hM qM cM) {i : Nat} (hi : i + 4 ≤ L) {G : GS} {Lx K : Nat → Nat} {hs : Int64} (hG : ok G) (kk : ∀ (G' : GS) (L' K' : Nat → Nat) (hs' : Int64), ok G' → LV p l e s m args below meth c Q D b hX qX cX hM qM cM i (G', L') (G', K', hs') 684 []) : LV p l e s m args below meth c Q D b hX qX cX hM qM cM i (G, Lx) (G, K, hs) 254 [] := by
  obtain ⟨F, hKX, hKM, aX1, aM1, hXs, hbl, hL⟩ := C0
  unfold LV at *
  refine x_aload_n (pc := 254) F dL_law_254 1 rfl rfl ?_
  refine x_aload_n (pc := 255) F dL_law_255 0 rfl rfl ?_
  refine x_iload_n (pc := 256) F dL_law_256 3 rfl rfl ?_
  refine x_iconst (v := nI 1) (pc := 257) F dL_law_257 (by decide) ?_
  refine x_iadd (z := nI (i + 1)) (pc := 258) F dL_law_258 (nI_add _ _) ?_
  refine y_sld (pc := 259) F hXs hbl hL (by omega) dL_law_259 ?_
  refine x_aload_n (pc := 260) F dL_law_260 0 rfl rfl ?_
  refine x_iload_n (pc := 261) F dL_law_261 3 rfl rfl ?_
  refine x_iconst (v := nI 2) (pc := 262) F dL_law_262 (by decide) ?_
  refine x_iadd (z := nI (i + 2)) (pc := 263) F dL_law_263 (nI_add _ _) ?_
  refine y_sld (pc := 264) F hXs hbl hL (by omega) dL_law_264 ?_
  refine x_aload_n (pc := 265) F dL_law_265 0 rfl rfl ?_
  refine x_iload_n (pc := 266) F dL_law_266 3 rfl rfl ?_
  refine x_iconst (v := nI 3) (pc := 267) F dL_law_267 (by decide) ?_
  refine x_iadd (z := nI (i + 3)) (pc := 268) F dL_law_268 (nI_add _ _) ?_
  refine y_sld (pc := 269) F hXs hbl hL (by omega) dL_law_269 ?_
  refine x_if_eq (tgt := 277) (pc := 270) F dL_law_270 (by decide) (fun hw => ?_) (fun hw => ?_)
  · skip
    refine x_iconst (v := nI 0) (pc := 277) F dL_law_277 (by decide) ?_
    refine y_calli (w := wX) (ty := tX) (pc := 278) F hKX wX_in aX1 rfl rfl [.int (xs (i + 1)), .int (xs (i + 2)), .int (nI 0)] [] (c_X0_addCall l G Lx (xs (i + 1)) (xs (i + 2)) 0 (by decide) hG) (cwV 3 F.2.2.2.2 gL_law_X0_addCall rfl rfl rfl (by decide +kernel) ⟨Nat.le_of_ble_eq_true rfl, Nat.le_of_ble_eq_true rfl⟩) rfl rfl rfl rfl (Nat.le_of_ble_eq_true rfl) dL_law_278 ⟨Nat.le_of_ble_eq_true rfl, Nat.le_of_ble_eq_true rfl⟩ ?_
    rintro _ _ ⟨rfl, rfl⟩
    refine x_aload_n (pc := 281) F dL_law_281 2 rfl rfl ?_
    refine x_aload_n (pc := 282) F dL_law_282 0 rfl rfl ?_
    refine x_iload_n (pc := 283) F dL_law_283 3 rfl rfl ?_
    refine x_iconst (v := nI 1) (pc := 284) F dL_law_284 (by decide) ?_
    refine x_iadd (z := nI (i + 1)) (pc := 285) F dL_law_285 (nI_add _ _) ?_
    refine y_sld (pc := 286) F hXs hbl hL (by omega) dL_law_286 ?_
    refine x_aload_n (pc := 287) F dL_law_287 0 rfl rfl ?_
    refine x_iload_n (pc := 288) F dL_law_288 3 rfl rfl ?_
    refine x_iconst (v := nI 2) (pc := 289) F dL_law_289 (by decide) ?_
    refine x_iadd (z := nI (i + 2)) (pc := 290) F dL_law_290 (nI_add _ _) ?_
    refine y_sld (pc := 291) F hXs hbl hL (by omega) dL_law_291 ?_
    refine x_aload_n (pc := 292) F dL_law_292 0 rfl rfl ?_
    refine x_iload_n (pc := 293) F dL_law_293 3 rfl rfl ?_
    refine x_iconst (v := nI 3) (pc := 294) F dL_law_294 (by decide) ?_
    refine x_iadd (z := nI (i + 3)) (pc := 295) F dL_law_295 (nI_add _ _) ?_
    refine y_sld (pc := 296) F hXs hbl hL (by omega) dL_law_296 ?_
    refine x_if_eq (tgt := 304) (pc := 297) F dL_law_297 (by decide) (fun _ => ?_) (fun hv => absurd hw hv)
    refine x_iconst (v := nI 0) (pc := 304) F dL_law_304 (by decide) ?_
    refine y_calli (w := wM) (ty := tM) (pc := 305) F hKM wM_in aM1 rfl rfl [.int (xs (i + 1)), .int (xs (i + 2)), .int (nI 0)] [_] (c_X1_addCall l G K hs (xs (i + 1)) (xs (i + 2)) 0 (by decide) hG) (cwV 3 F.2.2.2.2 gL_law_X1_addCall rfl rfl rfl (by decide +kernel) ⟨Nat.le_of_ble_eq_true rfl, Nat.le_of_ble_eq_true rfl⟩) rfl rfl rfl rfl (Nat.le_of_ble_eq_true rfl) dL_law_305 ⟨Nat.le_of_ble_eq_true rfl, Nat.le_of_ble_eq_true rfl⟩ ?_
    rintro _ _ ⟨rfl, rfl⟩
    refine x_icmp_eq (tgt := 684) (pc := 308) F dL_law_308 (by decide) (fun _ => ?_) (fun hv => absurd rfl hv)
    exact kk (sg_addCall G (xs (i + 1)) (xs (i + 2)) 0) Lx K hs (ok_addCall hG _ _ (by decide))
  · skip
    refine x_iconst (v := nI 1) (pc := 273) F dL_law_273 (by decide) ?_
    refine x_goto (tgt := 278) (pc := 274) F dL_law_274 (by decide) ?_
    refine y_calli (w := wX) (ty := tX) (pc := 278) F hKX wX_in aX1 rfl rfl [.int (xs (i + 1)), .int (xs (i + 2)), .int (nI 1)] [] (c_X0_addCall l G Lx (xs (i + 1)) (xs (i + 2)) 1 (by decide) hG) (cwV 3 F.2.2.2.2 gL_law_X0_addCall rfl rfl rfl (by decide +kernel) ⟨Nat.le_of_ble_eq_true rfl, Nat.le_of_ble_eq_true rfl⟩) rfl rfl rfl rfl (Nat.le_of_ble_eq_true rfl) dL_law_278 ⟨Nat.le_of_ble_eq_true rfl, Nat.le_of_ble_eq_true rfl⟩ ?_
    rintro _ _ ⟨rfl, rfl⟩
    refine x_aload_n (pc := 281) F dL_law_281 2 rfl rfl ?_
    refine x_aload_n (pc := 282) F dL_law_282 0 rfl rfl ?_
    refine x_iload_n (pc := 283) F dL_law_283 3 rfl rfl ?_
    refine x_iconst (v := nI 1) (pc := 284) F dL_law_284 (by decide) ?_
    refine x_iadd (z := nI (i + 1)) (pc := 285) F dL_law_285 (nI_add _ _) ?_
    refine y_sld (pc := 286) F hXs hbl hL (by omega) dL_law_286 ?_
    refine x_aload_n (pc := 287) F dL_law_287 0 rfl rfl ?_
    refine x_iload_n (pc := 288) F dL_law_288 3 rfl rfl ?_
    refine x_iconst (v := nI 2) (pc := 289) F dL_law_289 (by decide) ?_
    refine x_iadd (z := nI (i + 2)) (pc := 290) F dL_law_290 (nI_add _ _) ?_
    refine y_sld (pc := 291) F hXs hbl hL (by omega) dL_law_291 ?_
    refine x_aload_n (pc := 292) F dL_law_292 0 rfl rfl ?_
    refine x_iload_n (pc := 293) F dL_law_293 3 rfl rfl ?_
    refine x_iconst (v := nI 3) (pc := 294) F dL_law_294 (by decide) ?_
    refine x_iadd (z := nI (i + 3)) (pc := 295) F dL_law_295 (nI_add _ _) ?_
    refine y_sld (pc := 296) F hXs hbl hL (by omega) dL_law_296 ?_
    refine x_if_eq (tgt := 304) (pc := 297) F dL_law_297 (by decide) (fun hv => absurd hv hw) (fun _ => ?_)
    refine x_iconst (v := nI 1) (pc := 300) F dL_law_300 (by decide) ?_
    refine x_goto (tgt := 305) (pc := 301) F dL_law_301 (by decide) ?_
    refine y_calli (w := wM) (ty := tM) (pc := 305) F hKM wM_in aM1 rfl rfl [.int (xs (i + 1)), .int (xs (i + 2)), .int (nI 1)] [_] (c_X1_addCall l G K hs (xs (i + 1)) (xs (i + 2)) 1 (by decide) hG) (cwV 3 F.2.2.2.2 gL_law_X1_addCall rfl rfl rfl (by decide +kernel) ⟨Nat.le_of_ble_eq_true rfl, Nat.le_of_ble_eq_true rfl⟩) rfl rfl rfl rfl (Nat.le_of_ble_eq_true rfl) dL_law_305 ⟨Nat.le_of_ble_eq_true rfl, Nat.le_of_ble_eq_true rfl⟩ ?_
    rintro _ _ ⟨rfl, rfl⟩
    refine x_icmp_eq (tgt := 684) (pc := 308) F dL_law_308 (by decide) (fun _ => ?_) (fun hv => absurd rfl hv)
    exact kk (sg_addCall G (xs (i + 1)) (xs (i + 2)) 1) Lx K hs (ok_addCall hG _ _ (by decide))
set_option maxHeartbeats 4000000 in
set_option maxRecDepth 100000 in
theorem lc_removeLastRound {p : Program} {e : Env} {s : State} {m : MethodId} {args : Array Value} {below : List Frame} {meth : Method} {c : Code} {Q : State → Prop} {D : va_G} {b L : Nat} {xs : Nat → Int32} {hX : Nat} {qX : Nat → Nat} {cX : Nat → ClassId} {hM : Nat} {qM : Nat → Nat} {cM : Nat → ClassId} (l : Launch) (C0 : LC p m c s args D b L xs hX qX cX hM qM cM) {i : Nat} (hi : i + 4 ≤ L) {G : GS} {Lx K : Nat → Nat} {hs : Int64} (hG : ok G) (kk : ∀ (G' : GS) (L' K' : Nat → Nat) (hs' : Int64), ok G' → LV p l e s m args below meth c Q D b hX qX cX hM qM cM i (G', L') (G', K', hs') 684 []) : LV p l e s m args below meth c Q D b hX qX cX hM qM cM i (G, Lx) (G, K, hs) 313 [] := by
  obtain ⟨F, hKX, hKM, aX1, aM1, hXs, hbl, hL⟩ := C0
  unfold LV at *
  refine x_aload_n (pc := 313) F dL_law_313 1 rfl rfl ?_
  refine y_calli (w := wX) (ty := tX) (pc := 314) F hKX wX_in aX1 rfl rfl [] [] (c_X0_removeLastRound l G Lx hG) (cwV 0 F.2.2.2.2 gL_law_X0_removeLastRound rfl rfl rfl (by decide +kernel) ⟨Nat.le_of_ble_eq_true rfl, Nat.le_of_ble_eq_true rfl⟩) rfl rfl rfl rfl (Nat.le_of_ble_eq_true rfl) dL_law_314 ⟨Nat.le_of_ble_eq_true rfl, Nat.le_of_ble_eq_true rfl⟩ ?_
  rintro _ _ ⟨rfl, rfl⟩
  refine x_aload_n (pc := 317) F dL_law_317 2 rfl rfl ?_
  refine y_calli (w := wM) (ty := tM) (pc := 318) F hKM wM_in aM1 rfl rfl [] [_] (c_X1_removeLastRound l G K hs hG) (cwV 0 F.2.2.2.2 gL_law_X1_removeLastRound rfl rfl rfl (by decide +kernel) ⟨Nat.le_of_ble_eq_true rfl, Nat.le_of_ble_eq_true rfl⟩) rfl rfl rfl rfl (Nat.le_of_ble_eq_true rfl) dL_law_318 ⟨Nat.le_of_ble_eq_true rfl, Nat.le_of_ble_eq_true rfl⟩ ?_
  rintro _ _ ⟨rfl, rfl⟩
  refine x_icmp_eq (tgt := 684) (pc := 321) F dL_law_321 (by decide) (fun _ => ?_) (fun hv => absurd rfl hv)
  exact kk (sg_remove G) Lx K hs (ok_remove hG)
set_option maxHeartbeats 4000000 in
set_option maxRecDepth 100000 in
theorem lc_append {p : Program} {e : Env} {s : State} {m : MethodId} {args : Array Value} {below : List Frame} {meth : Method} {c : Code} {Q : State → Prop} {D : va_G} {b L : Nat} {xs : Nat → Int32} {hX : Nat} {qX : Nat → Nat} {cX : Nat → ClassId} {hM : Nat} {qM : Nat → Nat} {cM : Nat → ClassId} (l : Launch) (C0 : LC p m c s args D b L xs hX qX cX hM qM cM) {i : Nat} (hi : i + 4 ≤ L) {G : GS} {Lx K : Nat → Nat} {hs : Int64} (hG : ok G) (kk : ∀ (G' : GS) (L' K' : Nat → Nat) (hs' : Int64), ok G' → LV p l e s m args below meth c Q D b hX qX cX hM qM cM i (G', L') (G', K', hs') 684 []) : LV p l e s m args below meth c Q D b hX qX cX hM qM cM i (G, Lx) (G, K, hs) 326 [] := by
  obtain ⟨F, hKX, hKM, aX1, aM1, hXs, hbl, hL⟩ := C0
  unfold LV at *
  refine x_aload_n (pc := 326) F dL_law_326 1 rfl rfl ?_
  refine x_aload_n (pc := 327) F dL_law_327 0 rfl rfl ?_
  refine x_iload_n (pc := 328) F dL_law_328 3 rfl rfl ?_
  refine x_iconst (v := nI 1) (pc := 329) F dL_law_329 (by decide) ?_
  refine x_iadd (z := nI (i + 1)) (pc := 330) F dL_law_330 (nI_add _ _) ?_
  refine y_sld (pc := 331) F hXs hbl hL (by omega) dL_law_331 ?_
  refine y_calli (w := wX) (ty := tX) (pc := 332) F hKX wX_in aX1 rfl rfl [.int (xs (i + 1))] [] (c_X0_append l G Lx (xs (i + 1)) hG) (cwV 1 F.2.2.2.2 gL_law_X0_append rfl rfl rfl (by decide +kernel) ⟨Nat.le_of_ble_eq_true rfl, Nat.le_of_ble_eq_true rfl⟩) rfl rfl rfl rfl (Nat.le_of_ble_eq_true rfl) dL_law_332 ⟨Nat.le_of_ble_eq_true rfl, Nat.le_of_ble_eq_true rfl⟩ ?_
  rintro _ _ ⟨rfl, rfl⟩
  refine x_aload_n (pc := 335) F dL_law_335 2 rfl rfl ?_
  refine x_aload_n (pc := 336) F dL_law_336 0 rfl rfl ?_
  refine x_iload_n (pc := 337) F dL_law_337 3 rfl rfl ?_
  refine x_iconst (v := nI 1) (pc := 338) F dL_law_338 (by decide) ?_
  refine x_iadd (z := nI (i + 1)) (pc := 339) F dL_law_339 (nI_add _ _) ?_
  refine y_sld (pc := 340) F hXs hbl hL (by omega) dL_law_340 ?_
  refine y_calli (w := wM) (ty := tM) (pc := 341) F hKM wM_in aM1 rfl rfl [.int (xs (i + 1))] [_] (c_X1_append l G K hs (xs (i + 1)) hG) (cwV 1 F.2.2.2.2 gL_law_X1_append rfl rfl rfl (by decide +kernel) ⟨Nat.le_of_ble_eq_true rfl, Nat.le_of_ble_eq_true rfl⟩) rfl rfl rfl rfl (Nat.le_of_ble_eq_true rfl) dL_law_341 ⟨Nat.le_of_ble_eq_true rfl, Nat.le_of_ble_eq_true rfl⟩ ?_
  rintro _ _ ⟨rfl, rfl⟩
  refine x_icmp_eq (tgt := 684) (pc := 344) F dL_law_344 (by decide) (fun _ => ?_) (fun hv => absurd rfl hv)
  exact kk (sg_append G (xs (i + 1))) Lx K hs (ok_append hG _)
