set_option maxRecDepth 20000 in
theorem tw_454 : Cond.methodLink "CentrifugeUnitLaw" 75 ⟨"CentrifugeUnitLaw", "segment", "(LCentrifugeUnit;III[J)I"⟩ ∈ xw := xw_of (List.mem_append_right _ (List.mem_of_getElem? (i := 454) (by decide +kernel))) rfl
set_option maxRecDepth 20000 in
theorem tw_455 : Cond.static ⟨"CentrifugeUnitLaw", "segment", "(LCentrifugeUnit;III[J)I"⟩ ∈ xw := xw_of (List.mem_append_right _ (List.mem_of_getElem? (i := 455) (by decide +kernel))) rfl
set_option maxRecDepth 20000 in
theorem tw_456 : Cond.codeWith ⟨"CentrifugeUnitLaw", "segment", "(LCentrifugeUnit;III[J)I"⟩ method_5_code 6 (Option.some Jvm.ClassFile.FieldType.int) [(0, 12, 15, 13), (0, 12, 19, 15)] ∈ xw := xw_of (List.mem_append_right _ (List.mem_of_getElem? (i := 456) (by decide +kernel))) rfl
set_option maxRecDepth 20000 in
theorem tw_916 : Cond.methodLink "CentrifugeUnitLaw" 79 ⟨"CentrifugeUnitModel", "thrown", "()I"⟩ ∈ xw := xw_of (List.mem_append_right _ (List.mem_of_getElem? (i := 916) (by decide +kernel))) rfl
set_option maxRecDepth 20000 in
theorem tw_917 : Cond.instanceMethod ⟨"CentrifugeUnitModel", "thrown", "()I"⟩ ∈ xw := xw_of (List.mem_append_right _ (List.mem_of_getElem? (i := 917) (by decide +kernel))) rfl
set_option maxRecDepth 20000 in
theorem tw_918 : Cond.selects "CentrifugeUnitModel" ⟨"CentrifugeUnitModel", "thrown", "()I"⟩ ⟨"CentrifugeUnitModel", "thrown", "()I"⟩ ∈ xw := xw_of (List.mem_append_right _ (List.mem_of_getElem? (i := 918) (by decide +kernel))) rfl
set_option maxRecDepth 20000 in
theorem tw_919 : Cond.code ⟨"CentrifugeUnitModel", "thrown", "()I"⟩ prog_12_method_2_code 1 (Option.some Jvm.ClassFile.FieldType.int) ∈ xw := xw_of (List.mem_append_right _ (List.mem_of_getElem? (i := 919) (by decide +kernel))) rfl
set_option maxRecDepth 20000 in
theorem tw_943 : Cond.methodLink "CentrifugeUnitLaw" 78 ⟨"CentrifugeUnitModel", "segment", "(III)I"⟩ ∈ xw := xw_of (List.mem_append_right _ (List.mem_of_getElem? (i := 943) (by decide +kernel))) rfl
set_option maxRecDepth 20000 in
theorem tw_944 : Cond.instanceMethod ⟨"CentrifugeUnitModel", "segment", "(III)I"⟩ ∈ xw := xw_of (List.mem_append_right _ (List.mem_of_getElem? (i := 944) (by decide +kernel))) rfl
set_option maxRecDepth 20000 in
theorem tw_945 : Cond.selects "CentrifugeUnitModel" ⟨"CentrifugeUnitModel", "segment", "(III)I"⟩ ⟨"CentrifugeUnitModel", "segment", "(III)I"⟩ ∈ xw := xw_of (List.mem_append_right _ (List.mem_of_getElem? (i := 945) (by decide +kernel))) rfl
set_option maxRecDepth 20000 in
theorem tw_946 : Cond.code ⟨"CentrifugeUnitModel", "segment", "(III)I"⟩ prog_12_method_10_code 5 (Option.some Jvm.ClassFile.FieldType.int) ∈ xw := xw_of (List.mem_append_right _ (List.mem_of_getElem? (i := 946) (by decide +kernel))) rfl
theorem d_L_law_222 : decode code 222 = .ok (.aload_n 1, 1) := by decide +kernel
theorem d_L_law_223 : decode code 223 = .ok (.aload_n 0, 1) := by decide +kernel
theorem d_L_law_224 : decode code 224 = .ok (.iload 4, 2) := by decide +kernel
theorem d_L_law_226 : decode code 226 = .ok (.iconst 1, 1) := by decide +kernel
theorem d_L_law_227 : decode code 227 = .ok (.iadd, 1) := by decide +kernel
theorem d_L_law_228 : decode code 228 = .ok (.iaload, 1) := by decide +kernel
theorem d_L_law_229 : decode code 229 = .ok (.aload_n 0, 1) := by decide +kernel
theorem d_L_law_230 : decode code 230 = .ok (.iload 4, 2) := by decide +kernel
theorem d_L_law_232 : decode code 232 = .ok (.iconst 2, 1) := by decide +kernel
theorem d_L_law_233 : decode code 233 = .ok (.iadd, 1) := by decide +kernel
theorem d_L_law_234 : decode code 234 = .ok (.iaload, 1) := by decide +kernel
theorem d_L_law_235 : decode code 235 = .ok (.aload_n 0, 1) := by decide +kernel
theorem d_L_law_236 : decode code 236 = .ok (.iload 4, 2) := by decide +kernel
theorem d_L_law_238 : decode code 238 = .ok (.iconst 3, 1) := by decide +kernel
theorem d_L_law_239 : decode code 239 = .ok (.iadd, 1) := by decide +kernel
theorem d_L_law_240 : decode code 240 = .ok (.iaload, 1) := by decide +kernel
theorem d_L_law_241 : decode code 241 = .ok (.aload_n 3, 1) := by decide +kernel
theorem d_L_law_242 : decode code 242 = .ok (.invokestatic 75, 3) := by decide +kernel
theorem d_L_law_245 : decode code 245 = .ok (.istore 5, 2) := by decide +kernel
theorem d_L_law_247 : decode code 247 = .ok (.aload_n 2, 1) := by decide +kernel
theorem d_L_law_248 : decode code 248 = .ok (.aload_n 0, 1) := by decide +kernel
theorem d_L_law_249 : decode code 249 = .ok (.iload 4, 2) := by decide +kernel
theorem d_L_law_251 : decode code 251 = .ok (.iconst 1, 1) := by decide +kernel
theorem d_L_law_252 : decode code 252 = .ok (.iadd, 1) := by decide +kernel
theorem d_L_law_253 : decode code 253 = .ok (.iaload, 1) := by decide +kernel
theorem d_L_law_254 : decode code 254 = .ok (.aload_n 0, 1) := by decide +kernel
theorem d_L_law_255 : decode code 255 = .ok (.iload 4, 2) := by decide +kernel
theorem d_L_law_257 : decode code 257 = .ok (.iconst 2, 1) := by decide +kernel
theorem d_L_law_258 : decode code 258 = .ok (.iadd, 1) := by decide +kernel
theorem d_L_law_259 : decode code 259 = .ok (.iaload, 1) := by decide +kernel
theorem d_L_law_260 : decode code 260 = .ok (.aload_n 0, 1) := by decide +kernel
theorem d_L_law_261 : decode code 261 = .ok (.iload 4, 2) := by decide +kernel
theorem d_L_law_263 : decode code 263 = .ok (.iconst 3, 1) := by decide +kernel
theorem d_L_law_264 : decode code 264 = .ok (.iadd, 1) := by decide +kernel
theorem d_L_law_265 : decode code 265 = .ok (.iaload, 1) := by decide +kernel
theorem d_L_law_266 : decode code 266 = .ok (.invokevirtual 78, 3) := by decide +kernel
theorem d_L_law_269 : decode code 269 = .ok (.istore 6, 2) := by decide +kernel
theorem d_L_law_271 : decode code 271 = .ok (.aload_n 2, 1) := by decide +kernel
theorem d_L_law_272 : decode code 272 = .ok (.invokevirtual 79, 3) := by decide +kernel
theorem d_L_law_275 : decode code 275 = .ok (.iload 5, 2) := by decide +kernel
theorem d_L_law_277 : decode code 277 = .ok (.if_icmp .eq 5, 3) := by decide +kernel
theorem d_L_law_282 : decode code 282 = .ok (.iload 5, 2) := by decide +kernel
theorem d_L_law_284 : decode code 284 = .ok (.ifCond .ne 15, 3) := by decide +kernel
theorem d_L_law_287 : decode code 287 = .ok (.aload_n 3, 1) := by decide +kernel
theorem d_L_law_288 : decode code 288 = .ok (.iconst 0, 1) := by decide +kernel
theorem d_L_law_289 : decode code 289 = .ok (.laload, 1) := by decide +kernel
theorem d_L_law_290 : decode code 290 = .ok (.iload 6, 2) := by decide +kernel
theorem d_L_law_292 : decode code 292 = .ok (.i2l, 1) := by decide +kernel
theorem d_L_law_293 : decode code 293 = .ok (.lcmp, 1) := by decide +kernel
theorem d_L_law_294 : decode code 294 = .ok (.ifCond .eq 5, 3) := by decide +kernel
theorem d_L_law_299 : decode code 299 = .ok (.goto 372, 3) := by decide +kernel
set_option maxHeartbeats 4000000 in
set_option maxRecDepth 100000 in
theorem law_c2 (l : Launch) (htl : l.stackTraces = false) (dC : Nat → ClassId) (dI : Nat → Nat → Nat) (Z : Nat → ClassId) (A : Nat → Nat) (M : XM) {p : Program} {e : Env} {s : State} {m : MethodId} {below : List Frame} {meth : Method} {c : Code} {b L i : Nat} {sc : Nat → Int32} {AA : Nat → Prop} {Q : State → Prop} {H : Heap} {locs : List Loc} {ls : Array Slot} {cells slots : Nat} (hc : 0 ≤ (M.1 1)) (hc0 : 0 ≤ (M.1 102)) (hc1 : (M.1 102) ≤ 12)
    (hx : p.tables.exec = Jvm.exec) (hb : c.code = code) (hml : c.maxLocals = 8) (hown : s.vm.findClass "CentrifugeUnitLaw" = some m.cls) (htt : ∀ w ∈ xw, w.before #[Value.ref b] s = true) (hq : xq s) (hs : xs s) (hK : va_K (dC, dI) xcl (xty Z) s) (hA : ∀ q, s.heap.size ≤ q → AA q) (hA0 : ∀ q : Nat, q < s.heap.size → ¬ AA q) (hX : va_X b L sc s s.heap) (hbl : b < s.heap.size) (hL : L < 2 ^ 31) (hi : i + 6 ≤ L)
    (hP : va_P (dC, dI) xcl (xAll Z A M) H) (hD : va_D AA (xAll Z A M)) (hS : va_S AA s.heap H locs) (hl : lv_has ls 8 [(4, .int (nI i)), (3, .ref (A 32)), (2, .ref (A 20)), (1, .ref (A 0)), (0, .ref b)]) (hcl : cells + 1 ≤ room_1.cells) (hsl : slots + 6 ≤ room_1.slots)
    (heq : F_R_thrown (ap_R_segment M (F_R_segment M (sc (i + 1)) (sc (i + 2)) (sc (i + 3))).2) = (G_L_segment M (sc (i + 1)) (sc (i + 2)) (sc (i + 3))).1) (heq2 : (G_L_segment M (sc (i + 1)) (sc (i + 2)) (sc (i + 3))).1 = 0 → ((G_L_segment M (sc (i + 1)) (sc (i + 2)) (sc (i + 3))).2.2.2.2 32) 0 = (F_R_segment M (sc (i + 1)) (sc (i + 2)) (sc (i + 3))).1.toInt64)
    (k : ∀ (N : XM) (u : (Int32 × (Nat → Int32) × (Nat → Int32) × (Nat → Int32) × Int32)) (H : Heap) (locs : List Loc) (ls : Array Slot), N = (G_L_segment M (sc (i + 1)) (sc (i + 2)) (sc (i + 3))).2 → u = (F_R_segment M (sc (i + 1)) (sc (i + 2)) (sc (i + 3))).2 → va_P (dC, dI) xcl (xAll Z A (xmix N (ap_R_segment M u))) H → va_D AA (xAll Z A (xmix N (ap_R_segment M u))) → va_S AA s.heap H locs → lv_has ls 8 [(4, .int (nI i)), (3, .ref (A 32)), (2, .ref (A 20)), (1, .ref (A 0)), (0, .ref b)] → W p l e room_1 s m #[Value.ref b] below meth c H locs (cells + 1) (slots + 6) Q (F0 m 671 ls [])) : W p l e room_1 s m #[Value.ref b] below meth c H locs cells slots Q (F0 m 222 ls []) := by
  have hbA : ¬ AA b := hA0 b hbl
  have hts : ∀ w ∈ (Cond.initialized "CentrifugeUnitLaw" :: xw), w.before #[Value.ref b] s = true := fun w h => htt w (by rcases List.mem_cons.mp h with rfl | h; exact tw_0; exact h)
  have hP : va_P (dC, dI) xcl [(A 0, xc0 Z A M), (A 1, xc1 Z A M), (A 2, xc2 Z A M), (A 3, xc3 Z A M), (A 4, xc4 Z A M), (A 5, xc5 Z A M), (A 6, xc6 Z A M), (A 7, xc7 Z A M), (A 8, xc8 Z A M), (A 9, xc9 Z A M), (A 10, xc10 Z A M), (A 11, xc11 Z A M), (A 12, xc12 Z A M), (A 13, xc13 Z A M), (A 14, xc14 Z A M), (A 15, xc15 Z A M), (A 16, xc16 Z A M), (A 17, xc17 Z A M), (A 18, xc18 Z A M), (A 19, xc19 Z A M), (A 20, xc20 Z A M), (A 21, xc21 Z A M), (A 22, xc22 Z A M), (A 23, xc23 Z A M), (A 24, xc24 Z A M), (A 25, xc25 Z A M), (A 26, xc26 Z A M), (A 27, xc27 Z A M), (A 28, xc28 Z A M), (A 29, xc29 Z A M), (A 30, xc30 Z A M), (A 31, xc31 Z A M), (A 32, xc32 Z A M)] H := hP
  have hD : va_D AA [(A 0, xc0 Z A M), (A 1, xc1 Z A M), (A 2, xc2 Z A M), (A 3, xc3 Z A M), (A 4, xc4 Z A M), (A 5, xc5 Z A M), (A 6, xc6 Z A M), (A 7, xc7 Z A M), (A 8, xc8 Z A M), (A 9, xc9 Z A M), (A 10, xc10 Z A M), (A 11, xc11 Z A M), (A 12, xc12 Z A M), (A 13, xc13 Z A M), (A 14, xc14 Z A M), (A 15, xc15 Z A M), (A 16, xc16 Z A M), (A 17, xc17 Z A M), (A 18, xc18 Z A M), (A 19, xc19 Z A M), (A 20, xc20 Z A M), (A 21, xc21 Z A M), (A 22, xc22 Z A M), (A 23, xc23 Z A M), (A 24, xc24 Z A M), (A 25, xc25 Z A M), (A 26, xc26 Z A M), (A 27, xc27 Z A M), (A 28, xc28 Z A M), (A 29, xc29 Z A M), (A 30, xc30 Z A M), (A 31, xc31 Z A M), (A 32, xc32 Z A M)] := hD
  refine lv_aload_n hx hb d_L_law_222 rfl (lv_at hl 3 rfl) ?_
  refine xl_arg hx hb hX hbl hbA hS hL hl (p0 := 4) (p4 := 0) rfl rfl 1 (by omega) (by decide) d_L_law_223 d_L_law_224 d_L_law_226 d_L_law_227 d_L_law_228 ?_
  refine xl_arg hx hb hX hbl hbA hS hL hl (p0 := 4) (p4 := 0) rfl rfl 2 (by omega) (by decide) d_L_law_229 d_L_law_230 d_L_law_232 d_L_law_233 d_L_law_234 ?_
  refine xl_arg hx hb hX hbl hbA hS hL hl (p0 := 4) (p4 := 0) rfl rfl 3 (by omega) (by decide) d_L_law_235 d_L_law_236 d_L_law_238 d_L_law_239 d_L_law_240 ?_
  refine lv_aload_n hx hb d_L_law_241 rfl (lv_at hl 1 rfl) ?_
  have hPc := hP.sub (ws' := [(A 0, xc0 Z A M), (A 1, xc1 Z A M), (A 2, xc2 Z A M), (A 3, xc3 Z A M), (A 4, xc4 Z A M), (A 5, xc5 Z A M), (A 6, xc6 Z A M), (A 7, xc7 Z A M), (A 8, xc8 Z A M), (A 9, xc9 Z A M), (A 10, xc10 Z A M), (A 11, xc11 Z A M), (A 12, xc12 Z A M), (A 13, xc13 Z A M), (A 14, xc14 Z A M), (A 15, xc15 Z A M), (A 16, xc16 Z A M), (A 17, xc17 Z A M), (A 18, xc18 Z A M), (A 19, xc19 Z A M), (A 32, xc32 Z A M)]) [0, 1, 2, 3, 4, 5, 6, 7, 8, 9, 10, 11, 12, 13, 14, 15, 16, 17, 18, 19, 32] rfl
  have hDc := hD.sub (ws' := [(A 0, xc0 Z A M), (A 1, xc1 Z A M), (A 2, xc2 Z A M), (A 3, xc3 Z A M), (A 4, xc4 Z A M), (A 5, xc5 Z A M), (A 6, xc6 Z A M), (A 7, xc7 Z A M), (A 8, xc8 Z A M), (A 9, xc9 Z A M), (A 10, xc10 Z A M), (A 11, xc11 Z A M), (A 12, xc12 Z A M), (A 13, xc13 Z A M), (A 14, xc14 Z A M), (A 15, xc15 Z A M), (A 16, xc16 Z A M), (A 17, xc17 Z A M), (A 18, xc18 Z A M), (A 19, xc19 Z A M), (A 32, xc32 Z A M)]) [0, 1, 2, 3, 4, 5, 6, 7, 8, 9, 10, 11, 12, 13, 14, 15, 16, 17, 18, 19, 32] (by decide) rfl
  refine xk_i (wc := [(A 0, xc0 Z A M), (A 1, xc1 Z A M), (A 2, xc2 Z A M), (A 3, xc3 Z A M), (A 4, xc4 Z A M), (A 5, xc5 Z A M), (A 6, xc6 Z A M), (A 7, xc7 Z A M), (A 8, xc8 Z A M), (A 9, xc9 Z A M), (A 10, xc10 Z A M), (A 11, xc11 Z A M), (A 12, xc12 Z A M), (A 13, xc13 Z A M), (A 14, xc14 Z A M), (A 15, xc15 Z A M), (A 16, xc16 Z A M), (A 17, xc17 Z A M), (A 18, xc18 Z A M), (A 19, xc19 Z A M), (A 32, xc32 Z A M)]) (wr := [(A 20, xc20 Z A M), (A 21, xc21 Z A M), (A 22, xc22 Z A M), (A 23, xc23 Z A M), (A 24, xc24 Z A M), (A 25, xc25 Z A M), (A 26, xc26 Z A M), (A 27, xc27 Z A M), (A 28, xc28 Z A M), (A 29, xc29 Z A M), (A 30, xc30 Z A M), (A 31, xc31 Z A M)]) (xt_runSW (n := 5) (As := [.ref (A 0), .int (sc (i + 1)), .int (sc (i + 2)), .int (sc (i + 3)), .ref (A 32)]) (rest := []) ⟨hx, hb, hml, hown, hts⟩ (c_L_segment l htl dC dI Z A _ M (sc (i + 1)) (sc (i + 2)) (sc (i + 3)) hc) List.mem_cons_self rfl rfl ⟨Nat.le_of_ble_eq_true rfl, Nat.le_of_ble_eq_true rfl⟩ (xw_call _ tw_456) (htt _ tw_454) (htt _ tw_455) (htt _ tw_0) (by decide) (by decide +kernel) ⟨xBs_blind, fun U hU hW => ⟨rfl, xBs_in hPc hK hDc hq hs hS hA0 U hU hW⟩⟩ rfl rfl hl.1 rfl (lv_room (Nat.le_of_ble_eq_true rfl)) d_L_law_242 ⟨hcl, hsl⟩) hP hD hS hA [0, 1, 2, 3, 4, 5, 6, 7, 8, 9, 10, 11, 12, 13, 14, 15, 16, 17, 18, 19, 32] [20, 21, 22, 23, 24, 25, 26, 27, 28, 29, 30, 31] rfl rfl (by decide) (by decide) (fun r N H locs hG hP hD hS => ?_)
  have hP : va_P (dC, dI) xcl [(A 20, xc20 Z A M), (A 21, xc21 Z A M), (A 22, xc22 Z A M), (A 23, xc23 Z A M), (A 24, xc24 Z A M), (A 25, xc25 Z A M), (A 26, xc26 Z A M), (A 27, xc27 Z A M), (A 28, xc28 Z A M), (A 29, xc29 Z A M), (A 30, xc30 Z A M), (A 31, xc31 Z A M), (A 0, xc0 Z A N), (A 1, xc1 Z A N), (A 2, xc2 Z A N), (A 3, xc3 Z A N), (A 4, xc4 Z A N), (A 5, xc5 Z A N), (A 6, xc6 Z A N), (A 7, xc7 Z A N), (A 8, xc8 Z A N), (A 9, xc9 Z A N), (A 10, xc10 Z A N), (A 11, xc11 Z A N), (A 12, xc12 Z A N), (A 13, xc13 Z A N), (A 14, xc14 Z A N), (A 15, xc15 Z A N), (A 16, xc16 Z A N), (A 17, xc17 Z A N), (A 18, xc18 Z A N), (A 19, xc19 Z A N), (A 32, xc32 Z A N)] H := hP
  have hD : va_D AA [(A 20, xc20 Z A M), (A 21, xc21 Z A M), (A 22, xc22 Z A M), (A 23, xc23 Z A M), (A 24, xc24 Z A M), (A 25, xc25 Z A M), (A 26, xc26 Z A M), (A 27, xc27 Z A M), (A 28, xc28 Z A M), (A 29, xc29 Z A M), (A 30, xc30 Z A M), (A 31, xc31 Z A M), (A 0, xc0 Z A N), (A 1, xc1 Z A N), (A 2, xc2 Z A N), (A 3, xc3 Z A N), (A 4, xc4 Z A N), (A 5, xc5 Z A N), (A 6, xc6 Z A N), (A 7, xc7 Z A N), (A 8, xc8 Z A N), (A 9, xc9 Z A N), (A 10, xc10 Z A N), (A 11, xc11 Z A N), (A 12, xc12 Z A N), (A 13, xc13 Z A N), (A 14, xc14 Z A N), (A 15, xc15 Z A N), (A 16, xc16 Z A N), (A 17, xc17 Z A N), (A 18, xc18 Z A N), (A 19, xc19 Z A N), (A 32, xc32 Z A N)] := hD
  refine lv_istore (lv' := [(5, .int r), (4, .int (nI i)), (3, .ref (A 32)), (2, .ref (A 20)), (1, .ref (A 0)), (0, .ref b)]) hx hb d_L_law_245 hl (by decide) rfl (fun ls hl => ?_)
  refine lv_aload_n hx hb d_L_law_247 rfl (lv_at hl 3 rfl) ?_
  refine xl_arg hx hb hX hbl hbA hS hL hl (p0 := 5) (p4 := 1) rfl rfl 1 (by omega) (by decide) d_L_law_248 d_L_law_249 d_L_law_251 d_L_law_252 d_L_law_253 ?_
  refine xl_arg hx hb hX hbl hbA hS hL hl (p0 := 5) (p4 := 1) rfl rfl 2 (by omega) (by decide) d_L_law_254 d_L_law_255 d_L_law_257 d_L_law_258 d_L_law_259 ?_
  refine xl_arg hx hb hX hbl hbA hS hL hl (p0 := 5) (p4 := 1) rfl rfl 3 (by omega) (by decide) d_L_law_260 d_L_law_261 d_L_law_263 d_L_law_264 d_L_law_265 ?_
  have hPc := hP.sub (ws' := [(A 20, xc20 Z A M), (A 26, xc26 Z A M), (A 27, xc27 Z A M), (A 28, xc28 Z A M)]) [0, 6, 7, 8] rfl
  have hDc := hD.sub (ws' := [(A 20, xc20 Z A M), (A 26, xc26 Z A M), (A 27, xc27 Z A M), (A 28, xc28 Z A M)]) [0, 6, 7, 8] (by decide) rfl
  refine xk_i (wc := [(A 20, xc20 Z A M), (A 26, xc26 Z A M), (A 27, xc27 Z A M), (A 28, xc28 Z A M)]) (wr := [(A 21, xc21 Z A M), (A 22, xc22 Z A M), (A 23, xc23 Z A M), (A 24, xc24 Z A M), (A 25, xc25 Z A M), (A 29, xc29 Z A M), (A 30, xc30 Z A M), (A 31, xc31 Z A M), (A 0, xc0 Z A N), (A 1, xc1 Z A N), (A 2, xc2 Z A N), (A 3, xc3 Z A N), (A 4, xc4 Z A N), (A 5, xc5 Z A N), (A 6, xc6 Z A N), (A 7, xc7 Z A N), (A 8, xc8 Z A N), (A 9, xc9 Z A N), (A 10, xc10 Z A N), (A 11, xc11 Z A N), (A 12, xc12 Z A N), (A 13, xc13 Z A N), (A 14, xc14 Z A N), (A 15, xc15 Z A N), (A 16, xc16 Z A N), (A 17, xc17 Z A N), (A 18, xc18 Z A N), (A 19, xc19 Z A N), (A 32, xc32 Z A N)]) (va_runV (As := [.int (sc (i + 1)), .int (sc (i + 2)), .int (sc (i + 3))]) (rest := []) ⟨hx, hb, hml, hown, hts⟩ (c_R_segment l dC dI Z A _ M (sc (i + 1)) (sc (i + 2)) (sc (i + 3)) hc0 hc1) (cwV 3 hts (xw_V _ tw_943 tw_944 tw_945 tw_12 tw_946) rfl rfl rfl (by decide +kernel) ⟨Nat.le_of_ble_eq_true rfl, Nat.le_of_ble_eq_true rfl⟩) ⟨xB_blind, va_recv (q0 := 0) (ci := 10) hK hP rfl rfl, fun U hU hW => ⟨rfl, xB_at hPc hK hDc hq U hU hW⟩⟩ rfl rfl hl.1 rfl (lv_room (Nat.le_of_ble_eq_true rfl)) d_L_law_266 ⟨Nat.le_trans (Nat.le_refl _) hcl, Nat.le_trans (Nat.le_refl _) hsl⟩) hP hD hS hA [0, 6, 7, 8] [1, 2, 3, 4, 5, 9, 10, 11, 12, 13, 14, 15, 16, 17, 18, 19, 20, 21, 22, 23, 24, 25, 26, 27, 28, 29, 30, 31, 32] rfl rfl (by decide) (by decide) (fun r2 u H locs hu hP hD hS => ?_)
  have hP : va_P (dC, dI) xcl [(A 21, xc21 Z A (ap_R_segment M u)), (A 22, xc22 Z A (ap_R_segment M u)), (A 23, xc23 Z A (ap_R_segment M u)), (A 24, xc24 Z A (ap_R_segment M u)), (A 25, xc25 Z A (ap_R_segment M u)), (A 29, xc29 Z A (ap_R_segment M u)), (A 30, xc30 Z A (ap_R_segment M u)), (A 31, xc31 Z A (ap_R_segment M u)), (A 0, xc0 Z A N), (A 1, xc1 Z A N), (A 2, xc2 Z A N), (A 3, xc3 Z A N), (A 4, xc4 Z A N), (A 5, xc5 Z A N), (A 6, xc6 Z A N), (A 7, xc7 Z A N), (A 8, xc8 Z A N), (A 9, xc9 Z A N), (A 10, xc10 Z A N), (A 11, xc11 Z A N), (A 12, xc12 Z A N), (A 13, xc13 Z A N), (A 14, xc14 Z A N), (A 15, xc15 Z A N), (A 16, xc16 Z A N), (A 17, xc17 Z A N), (A 18, xc18 Z A N), (A 19, xc19 Z A N), (A 32, xc32 Z A N), (A 20, xc20 Z A (ap_R_segment M u)), (A 26, xc26 Z A (ap_R_segment M u)), (A 27, xc27 Z A (ap_R_segment M u)), (A 28, xc28 Z A (ap_R_segment M u))] H := hP
  have hD : va_D AA [(A 21, xc21 Z A (ap_R_segment M u)), (A 22, xc22 Z A (ap_R_segment M u)), (A 23, xc23 Z A (ap_R_segment M u)), (A 24, xc24 Z A (ap_R_segment M u)), (A 25, xc25 Z A (ap_R_segment M u)), (A 29, xc29 Z A (ap_R_segment M u)), (A 30, xc30 Z A (ap_R_segment M u)), (A 31, xc31 Z A (ap_R_segment M u)), (A 0, xc0 Z A N), (A 1, xc1 Z A N), (A 2, xc2 Z A N), (A 3, xc3 Z A N), (A 4, xc4 Z A N), (A 5, xc5 Z A N), (A 6, xc6 Z A N), (A 7, xc7 Z A N), (A 8, xc8 Z A N), (A 9, xc9 Z A N), (A 10, xc10 Z A N), (A 11, xc11 Z A N), (A 12, xc12 Z A N), (A 13, xc13 Z A N), (A 14, xc14 Z A N), (A 15, xc15 Z A N), (A 16, xc16 Z A N), (A 17, xc17 Z A N), (A 18, xc18 Z A N), (A 19, xc19 Z A N), (A 32, xc32 Z A N), (A 20, xc20 Z A (ap_R_segment M u)), (A 26, xc26 Z A (ap_R_segment M u)), (A 27, xc27 Z A (ap_R_segment M u)), (A 28, xc28 Z A (ap_R_segment M u))] := hD
  refine lv_istore (lv' := [(6, .int r2), (5, .int r), (4, .int (nI i)), (3, .ref (A 32)), (2, .ref (A 20)), (1, .ref (A 0)), (0, .ref b)]) hx hb d_L_law_269 hl (by decide) rfl (fun ls hl => ?_)
  refine lv_aload_n hx hb d_L_law_271 rfl (lv_at hl 4 rfl) ?_
  have hPc := hP.sub (ws' := [(A 20, xc20 Z A (ap_R_segment M u))]) [29] rfl
  have hDc := hD.sub (ws' := [(A 20, xc20 Z A (ap_R_segment M u))]) [29] (by decide) rfl
  refine xk_p (va_runV (As := []) (rest := []) ⟨hx, hb, hml, hown, hts⟩ (c_R_thrown l dC dI Z A _ (ap_R_segment M u)) (cwV 0 hts (xw_V _ tw_916 tw_917 tw_918 tw_12 tw_919) rfl rfl rfl (by decide +kernel) ⟨Nat.le_of_ble_eq_true rfl, Nat.le_of_ble_eq_true rfl⟩) ⟨xB_blind, va_recv (q0 := 29) (ci := 10) hK hP rfl rfl, fun U hU hW => ⟨rfl, xB_at hPc hK hDc hq U hU hW⟩⟩ rfl rfl hl.1 rfl (lv_room (Nat.le_of_ble_eq_true rfl)) d_L_law_272 ⟨Nat.le_trans (Nat.le_refl _) hcl, Nat.le_trans (Nat.le_refl _) hsl⟩) ?_
  refine lv_iload hx hb d_L_law_275 (lv_at hl 1 rfl) ?_
  have ht : F_R_thrown (ap_R_segment M u) = r := by
    have e2 : u = (F_R_segment M (sc (i + 1)) (sc (i + 2)) (sc (i + 3))).2 := congrArg Prod.snd hu
    rw [e2]
    exact heq.trans (congrArg Prod.fst hG).symm
  refine lv_icmp_eq (tgt := 282) hx hb d_L_law_277 rfl (fun _ => ?_) (fun h => absurd ht h)
  refine lv_iload hx hb d_L_law_282 (lv_at hl 1 rfl) ?_
  refine lv_if_ne (tgt := 299) hx hb d_L_law_284 rfl (fun _ => ?_) (fun h0 => ?_)
  · refine lv_goto (tgt := 671) hx hb d_L_law_299 rfl ?_
    exact k N u H locs ls (congrArg Prod.snd hG) (congrArg Prod.snd hu) (show va_P (dC, dI) xcl (xAll Z A (xmix N (ap_R_segment M u))) H from hP.sub [8, 9, 10, 11, 12, 13, 14, 15, 16, 17, 18, 19, 20, 21, 22, 23, 24, 25, 26, 27, 29, 0, 1, 2, 3, 4, 30, 31, 32, 5, 6, 7, 28] rfl) (show va_D AA (xAll Z A (xmix N (ap_R_segment M u))) from hD.sub [8, 9, 10, 11, 12, 13, 14, 15, 16, 17, 18, 19, 20, 21, 22, 23, 24, 25, 26, 27, 29, 0, 1, 2, 3, 4, 30, 31, 32, 5, 6, 7, 28] (by decide) rfl) hS (lv_sub hl [2, 3, 4, 5, 6] rfl)
  · refine lv_aload_n hx hb d_L_law_287 rfl (lv_at hl 3 rfl) ?_
    refine lv_iconst (v := 0) hx hb d_L_law_288 (by decide) ?_
    refine va_lald (D := (dC, dI)) hx hb hK hP 28 1 rfl rfl (by unfold vp_in; decide) d_L_law_289 ?_
    refine W.eq (g2 := F0 m 290 ls [.long ((N.2.2.2 32) 0)]) rfl ?_
    refine lv_iload hx hb d_L_law_290 (lv_at hl 0 rfl) ?_
    refine lv_i2l (v := r2.toInt64) hx hb d_L_law_292 rfl ?_
    refine W.lcmp hx hb d_L_law_293 ?_
    have hv : (N.2.2.2 32) 0 = r2.toInt64 := by
      have e1 : N = (G_L_segment M (sc (i + 1)) (sc (i + 2)) (sc (i + 3))).2 := congrArg Prod.snd hG
      have e2 : r2 = (F_R_segment M (sc (i + 1)) (sc (i + 2)) (sc (i + 3))).1 := congrArg Prod.fst hu
      rw [e1, e2]
      exact heq2 ((congrArg Prod.fst hG).symm.trans h0)
    refine lv_if_eq (tgt := 299) hx hb d_L_law_294 rfl (fun _ => ?_) (fun h => absurd ((lg_cmp_eq _ _).mpr hv) h)
    refine lv_goto (tgt := 671) hx hb d_L_law_299 rfl ?_
    exact k N u H locs ls (congrArg Prod.snd hG) (congrArg Prod.snd hu) (show va_P (dC, dI) xcl (xAll Z A (xmix N (ap_R_segment M u))) H from hP.sub [8, 9, 10, 11, 12, 13, 14, 15, 16, 17, 18, 19, 20, 21, 22, 23, 24, 25, 26, 27, 29, 0, 1, 2, 3, 4, 30, 31, 32, 5, 6, 7, 28] rfl) (show va_D AA (xAll Z A (xmix N (ap_R_segment M u))) from hD.sub [8, 9, 10, 11, 12, 13, 14, 15, 16, 17, 18, 19, 20, 21, 22, 23, 24, 25, 26, 27, 29, 0, 1, 2, 3, 4, 30, 31, 32, 5, 6, 7, 28] (by decide) rfl) hS (lv_sub hl [2, 3, 4, 5, 6] rfl)
