set_option maxRecDepth 20000 in
theorem tw_573 : Cond.methodLink "CentrifugeUnitLaw" 108 ⟨"CentrifugeUnitLaw", "tick", "(LCentrifugeUnit;I[J)I"⟩ ∈ xw := xw_of (List.mem_append_right _ (List.mem_of_getElem? (i := 573) (by decide +kernel))) rfl
set_option maxRecDepth 20000 in
theorem tw_574 : Cond.static ⟨"CentrifugeUnitLaw", "tick", "(LCentrifugeUnit;I[J)I"⟩ ∈ xw := xw_of (List.mem_append_right _ (List.mem_of_getElem? (i := 574) (by decide +kernel))) rfl
set_option maxRecDepth 20000 in
theorem tw_575 : Cond.codeWith ⟨"CentrifugeUnitLaw", "tick", "(LCentrifugeUnit;I[J)I"⟩ method_13_code 4 (Option.some Jvm.ClassFile.FieldType.int) [(0, 9, 12, 13)] ∈ xw := xw_of (List.mem_append_right _ (List.mem_of_getElem? (i := 575) (by decide +kernel))) rfl
set_option maxRecDepth 20000 in
theorem tw_916 : Cond.methodLink "CentrifugeUnitLaw" 112 ⟨"CentrifugeUnitModel", "thrown", "()I"⟩ ∈ xw := xw_of (List.mem_append_right _ (List.mem_of_getElem? (i := 916) (by decide +kernel))) rfl
set_option maxRecDepth 20000 in
theorem tw_917 : Cond.instanceMethod ⟨"CentrifugeUnitModel", "thrown", "()I"⟩ ∈ xw := xw_of (List.mem_append_right _ (List.mem_of_getElem? (i := 917) (by decide +kernel))) rfl
set_option maxRecDepth 20000 in
theorem tw_918 : Cond.selects "CentrifugeUnitModel" ⟨"CentrifugeUnitModel", "thrown", "()I"⟩ ⟨"CentrifugeUnitModel", "thrown", "()I"⟩ ∈ xw := xw_of (List.mem_append_right _ (List.mem_of_getElem? (i := 918) (by decide +kernel))) rfl
set_option maxRecDepth 20000 in
theorem tw_919 : Cond.code ⟨"CentrifugeUnitModel", "thrown", "()I"⟩ prog_12_method_2_code 1 (Option.some Jvm.ClassFile.FieldType.int) ∈ xw := xw_of (List.mem_append_right _ (List.mem_of_getElem? (i := 919) (by decide +kernel))) rfl
set_option maxRecDepth 20000 in
theorem tw_998 : Cond.methodLink "CentrifugeUnitLaw" 111 ⟨"CentrifugeUnitModel", "tick", "(I)I"⟩ ∈ xw := xw_of (List.mem_append_right _ (List.mem_of_getElem? (i := 998) (by decide +kernel))) rfl
set_option maxRecDepth 20000 in
theorem tw_999 : Cond.instanceMethod ⟨"CentrifugeUnitModel", "tick", "(I)I"⟩ ∈ xw := xw_of (List.mem_append_right _ (List.mem_of_getElem? (i := 999) (by decide +kernel))) rfl
set_option maxRecDepth 20000 in
theorem tw_1000 : Cond.selects "CentrifugeUnitModel" ⟨"CentrifugeUnitModel", "tick", "(I)I"⟩ ⟨"CentrifugeUnitModel", "tick", "(I)I"⟩ ∈ xw := xw_of (List.mem_append_right _ (List.mem_of_getElem? (i := 1000) (by decide +kernel))) rfl
set_option maxRecDepth 20000 in
theorem tw_1001 : Cond.code ⟨"CentrifugeUnitModel", "tick", "(I)I"⟩ prog_12_method_27_code 3 (Option.some Jvm.ClassFile.FieldType.int) ∈ xw := xw_of (List.mem_append_right _ (List.mem_of_getElem? (i := 1001) (by decide +kernel))) rfl
theorem d_L_law_508 : decode code 508 = .ok (.aload_n 1, 1) := by decide +kernel
theorem d_L_law_509 : decode code 509 = .ok (.aload_n 0, 1) := by decide +kernel
theorem d_L_law_510 : decode code 510 = .ok (.iload 4, 2) := by decide +kernel
theorem d_L_law_512 : decode code 512 = .ok (.iconst 1, 1) := by decide +kernel
theorem d_L_law_513 : decode code 513 = .ok (.iadd, 1) := by decide +kernel
theorem d_L_law_514 : decode code 514 = .ok (.iaload, 1) := by decide +kernel
theorem d_L_law_515 : decode code 515 = .ok (.aload_n 3, 1) := by decide +kernel
theorem d_L_law_516 : decode code 516 = .ok (.invokestatic 108, 3) := by decide +kernel
theorem d_L_law_519 : decode code 519 = .ok (.istore 5, 2) := by decide +kernel
theorem d_L_law_521 : decode code 521 = .ok (.aload_n 2, 1) := by decide +kernel
theorem d_L_law_522 : decode code 522 = .ok (.aload_n 0, 1) := by decide +kernel
theorem d_L_law_523 : decode code 523 = .ok (.iload 4, 2) := by decide +kernel
theorem d_L_law_525 : decode code 525 = .ok (.iconst 1, 1) := by decide +kernel
theorem d_L_law_526 : decode code 526 = .ok (.iadd, 1) := by decide +kernel
theorem d_L_law_527 : decode code 527 = .ok (.iaload, 1) := by decide +kernel
theorem d_L_law_528 : decode code 528 = .ok (.invokevirtual 111, 3) := by decide +kernel
theorem d_L_law_531 : decode code 531 = .ok (.istore 6, 2) := by decide +kernel
theorem d_L_law_533 : decode code 533 = .ok (.aload_n 2, 1) := by decide +kernel
theorem d_L_law_534 : decode code 534 = .ok (.invokevirtual 112, 3) := by decide +kernel
theorem d_L_law_537 : decode code 537 = .ok (.iload 5, 2) := by decide +kernel
theorem d_L_law_539 : decode code 539 = .ok (.if_icmp .eq 5, 3) := by decide +kernel
theorem d_L_law_544 : decode code 544 = .ok (.iload 5, 2) := by decide +kernel
theorem d_L_law_546 : decode code 546 = .ok (.ifCond .ne 15, 3) := by decide +kernel
theorem d_L_law_549 : decode code 549 = .ok (.aload_n 3, 1) := by decide +kernel
theorem d_L_law_550 : decode code 550 = .ok (.iconst 0, 1) := by decide +kernel
theorem d_L_law_551 : decode code 551 = .ok (.laload, 1) := by decide +kernel
theorem d_L_law_552 : decode code 552 = .ok (.iload 6, 2) := by decide +kernel
theorem d_L_law_554 : decode code 554 = .ok (.i2l, 1) := by decide +kernel
theorem d_L_law_555 : decode code 555 = .ok (.lcmp, 1) := by decide +kernel
theorem d_L_law_556 : decode code 556 = .ok (.ifCond .eq 5, 3) := by decide +kernel
theorem d_L_law_561 : decode code 561 = .ok (.goto 110, 3) := by decide +kernel
set_option maxHeartbeats 4000000 in
set_option maxRecDepth 100000 in
theorem law_c11 (l : Launch) (htl : l.stackTraces = false) (dC : Nat → ClassId) (dI : Nat → Nat → Nat) (Z : Nat → ClassId) (A : Nat → Nat) (M : XM) {p : Program} {e : Env} {s : State} {m : MethodId} {below : List Frame} {meth : Method} {c : Code} {b L i : Nat} {sc : Nat → Int32} {AA : Nat → Prop} {Q : State → Prop} {H : Heap} {locs : List Loc} {ls : Array Slot} {cells slots : Nat} (hc : (M.1 1) ≤ 12) (hI0 : ¬ F_R_in M (sc (i + 1)).toInt64 1 2000 = 0 → ∀ j, j < (sc (i + 1)).toNatClampNeg → xRI (xit_R_tick (va_up M.1 100 0, M.2) j))
    (hx : p.tables.exec = Jvm.exec) (hb : c.code = code) (hml : c.maxLocals = 8) (hown : s.vm.findClass "CentrifugeUnitLaw" = some m.cls) (htt : ∀ w ∈ xw, w.before #[Value.ref b] s = true) (hq : xq s) (hs : xs s) (hK : va_K (dC, dI) xcl (xty Z) s) (hA : ∀ q, s.heap.size ≤ q → AA q) (hA0 : ∀ q : Nat, q < s.heap.size → ¬ AA q) (hX : va_X b L sc s s.heap) (hbl : b < s.heap.size) (hL : L < 2 ^ 31) (hi : i + 6 ≤ L)
    (hP : va_P (dC, dI) xcl (xAll Z A M) H) (hD : va_D AA (xAll Z A M)) (hS : va_S AA s.heap H locs) (hl : lv_has ls 8 [(4, .int (nI i)), (3, .ref (A 32)), (2, .ref (A 20)), (1, .ref (A 0)), (0, .ref b)]) (hcl : cells + 1 ≤ room_1.cells) (hsl : slots + 6 ≤ room_1.slots)
    (heq : F_R_thrown (ap_R_tickA M (F_R_tickA M (sc (i + 1))).2) = (G_L_tick M (sc (i + 1))).1) (heq2 : (G_L_tick M (sc (i + 1))).1 = 0 → ((G_L_tick M (sc (i + 1))).2.2.2.2 32) 0 = (F_R_tickA M (sc (i + 1))).1.toInt64)
    (k : ∀ (N : XM) (u : XM) (H : Heap) (locs : List Loc) (ls : Array Slot), N = (G_L_tick M (sc (i + 1))).2 → u = (F_R_tickA M (sc (i + 1))).2 → va_P (dC, dI) xcl (xAll Z A (xmix N (ap_R_tickA M u))) H → va_D AA (xAll Z A (xmix N (ap_R_tickA M u))) → va_S AA s.heap H locs → lv_has ls 8 [(4, .int (nI i)), (3, .ref (A 32)), (2, .ref (A 20)), (1, .ref (A 0)), (0, .ref b)] → W p l e room_1 s m #[Value.ref b] below meth c H locs (cells + 1) (slots + 6) Q (F0 m 671 ls [])) : W p l e room_1 s m #[Value.ref b] below meth c H locs cells slots Q (F0 m 508 ls []) := by
  have hbA : ¬ AA b := hA0 b hbl
  have hts : ∀ w ∈ (Cond.initialized "CentrifugeUnitLaw" :: xw), w.before #[Value.ref b] s = true := fun w h => htt w (by rcases List.mem_cons.mp h with rfl | h; exact tw_0; exact h)
  have hP : va_P (dC, dI) xcl [(A 0, xc0 Z A M), (A 1, xc1 Z A M), (A 2, xc2 Z A M), (A 3, xc3 Z A M), (A 4, xc4 Z A M), (A 5, xc5 Z A M), (A 6, xc6 Z A M), (A 7, xc7 Z A M), (A 8, xc8 Z A M), (A 9, xc9 Z A M), (A 10, xc10 Z A M), (A 11, xc11 Z A M), (A 12, xc12 Z A M), (A 13, xc13 Z A M), (A 14, xc14 Z A M), (A 15, xc15 Z A M), (A 16, xc16 Z A M), (A 17, xc17 Z A M), (A 18, xc18 Z A M), (A 19, xc19 Z A M), (A 20, xc20 Z A M), (A 21, xc21 Z A M), (A 22, xc22 Z A M), (A 23, xc23 Z A M), (A 24, xc24 Z A M), (A 25, xc25 Z A M), (A 26, xc26 Z A M), (A 27, xc27 Z A M), (A 28, xc28 Z A M), (A 29, xc29 Z A M), (A 30, xc30 Z A M), (A 31, xc31 Z A M), (A 32, xc32 Z A M)] H := hP
  have hD : va_D AA [(A 0, xc0 Z A M), (A 1, xc1 Z A M), (A 2, xc2 Z A M), (A 3, xc3 Z A M), (A 4, xc4 Z A M), (A 5, xc5 Z A M), (A 6, xc6 Z A M), (A 7, xc7 Z A M), (A 8, xc8 Z A M), (A 9, xc9 Z A M), (A 10, xc10 Z A M), (A 11, xc11 Z A M), (A 12, xc12 Z A M), (A 13, xc13 Z A M), (A 14, xc14 Z A M), (A 15, xc15 Z A M), (A 16, xc16 Z A M), (A 17, xc17 Z A M), (A 18, xc18 Z A M), (A 19, xc19 Z A M), (A 20, xc20 Z A M), (A 21, xc21 Z A M), (A 22, xc22 Z A M), (A 23, xc23 Z A M), (A 24, xc24 Z A M), (A 25, xc25 Z A M), (A 26, xc26 Z A M), (A 27, xc27 Z A M), (A 28, xc28 Z A M), (A 29, xc29 Z A M), (A 30, xc30 Z A M), (A 31, xc31 Z A M), (A 32, xc32 Z A M)] := hD
  refine lv_aload_n hx hb d_L_law_508 rfl (lv_at hl 3 rfl) ?_
  refine xl_arg hx hb hX hbl hbA hS hL hl (p0 := 4) (p4 := 0) rfl rfl 1 (by omega) (by decide) d_L_law_509 d_L_law_510 d_L_law_512 d_L_law_513 d_L_law_514 ?_
  refine lv_aload_n hx hb d_L_law_515 rfl (lv_at hl 1 rfl) ?_
  have hPc := hP.sub (ws' := [(A 0, xc0 Z A M), (A 1, xc1 Z A M), (A 2, xc2 Z A M), (A 3, xc3 Z A M), (A 4, xc4 Z A M), (A 5, xc5 Z A M), (A 6, xc6 Z A M), (A 7, xc7 Z A M), (A 8, xc8 Z A M), (A 9, xc9 Z A M), (A 10, xc10 Z A M), (A 11, xc11 Z A M), (A 12, xc12 Z A M), (A 13, xc13 Z A M), (A 14, xc14 Z A M), (A 15, xc15 Z A M), (A 16, xc16 Z A M), (A 17, xc17 Z A M), (A 18, xc18 Z A M), (A 19, xc19 Z A M), (A 32, xc32 Z A M)]) [0, 1, 2, 3, 4, 5, 6, 7, 8, 9, 10, 11, 12, 13, 14, 15, 16, 17, 18, 19, 32] rfl
  have hDc := hD.sub (ws' := [(A 0, xc0 Z A M), (A 1, xc1 Z A M), (A 2, xc2 Z A M), (A 3, xc3 Z A M), (A 4, xc4 Z A M), (A 5, xc5 Z A M), (A 6, xc6 Z A M), (A 7, xc7 Z A M), (A 8, xc8 Z A M), (A 9, xc9 Z A M), (A 10, xc10 Z A M), (A 11, xc11 Z A M), (A 12, xc12 Z A M), (A 13, xc13 Z A M), (A 14, xc14 Z A M), (A 15, xc15 Z A M), (A 16, xc16 Z A M), (A 17, xc17 Z A M), (A 18, xc18 Z A M), (A 19, xc19 Z A M), (A 32, xc32 Z A M)]) [0, 1, 2, 3, 4, 5, 6, 7, 8, 9, 10, 11, 12, 13, 14, 15, 16, 17, 18, 19, 32] (by decide) rfl
  refine xk_i (wc := [(A 0, xc0 Z A M), (A 1, xc1 Z A M), (A 2, xc2 Z A M), (A 3, xc3 Z A M), (A 4, xc4 Z A M), (A 5, xc5 Z A M), (A 6, xc6 Z A M), (A 7, xc7 Z A M), (A 8, xc8 Z A M), (A 9, xc9 Z A M), (A 10, xc10 Z A M), (A 11, xc11 Z A M), (A 12, xc12 Z A M), (A 13, xc13 Z A M), (A 14, xc14 Z A M), (A 15, xc15 Z A M), (A 16, xc16 Z A M), (A 17, xc17 Z A M), (A 18, xc18 Z A M), (A 19, xc19 Z A M), (A 32, xc32 Z A M)]) (wr := [(A 20, xc20 Z A M), (A 21, xc21 Z A M), (A 22, xc22 Z A M), (A 23, xc23 Z A M), (A 24, xc24 Z A M), (A 25, xc25 Z A M), (A 26, xc26 Z A M), (A 27, xc27 Z A M), (A 28, xc28 Z A M), (A 29, xc29 Z A M), (A 30, xc30 Z A M), (A 31, xc31 Z A M)]) (xt_runSW (n := 3) (As := [.ref (A 0), .int (sc (i + 1)), .ref (A 32)]) (rest := []) ⟨hx, hb, hml, hown, hts⟩ (c_L_tick l htl dC dI Z A _ M (sc (i + 1)) hc) List.mem_cons_self rfl rfl ⟨Nat.le_of_ble_eq_true rfl, Nat.le_of_ble_eq_true rfl⟩ (xw_call _ tw_575) (htt _ tw_573) (htt _ tw_574) (htt _ tw_0) (by decide) (by decide +kernel) ⟨xBs_blind, fun U hU hW => ⟨rfl, xBs_in hPc hK hDc hq hs hS hA0 U hU hW⟩⟩ rfl rfl hl.1 rfl (lv_room (Nat.le_of_ble_eq_true rfl)) d_L_law_516 ⟨hcl, hsl⟩) hP hD hS hA [0, 1, 2, 3, 4, 5, 6, 7, 8, 9, 10, 11, 12, 13, 14, 15, 16, 17, 18, 19, 32] [20, 21, 22, 23, 24, 25, 26, 27, 28, 29, 30, 31] rfl rfl (by decide) (by decide) (fun r N H locs hG hP hD hS => ?_)
  have hP : va_P (dC, dI) xcl [(A 20, xc20 Z A M), (A 21, xc21 Z A M), (A 22, xc22 Z A M), (A 23, xc23 Z A M), (A 24, xc24 Z A M), (A 25, xc25 Z A M), (A 26, xc26 Z A M), (A 27, xc27 Z A M), (A 28, xc28 Z A M), (A 29, xc29 Z A M), (A 30, xc30 Z A M), (A 31, xc31 Z A M), (A 0, xc0 Z A N), (A 1, xc1 Z A N), (A 2, xc2 Z A N), (A 3, xc3 Z A N), (A 4, xc4 Z A N), (A 5, xc5 Z A N), (A 6, xc6 Z A N), (A 7, xc7 Z A N), (A 8, xc8 Z A N), (A 9, xc9 Z A N), (A 10, xc10 Z A N), (A 11, xc11 Z A N), (A 12, xc12 Z A N), (A 13, xc13 Z A N), (A 14, xc14 Z A N), (A 15, xc15 Z A N), (A 16, xc16 Z A N), (A 17, xc17 Z A N), (A 18, xc18 Z A N), (A 19, xc19 Z A N), (A 32, xc32 Z A N)] H := hP
  have hD : va_D AA [(A 20, xc20 Z A M), (A 21, xc21 Z A M), (A 22, xc22 Z A M), (A 23, xc23 Z A M), (A 24, xc24 Z A M), (A 25, xc25 Z A M), (A 26, xc26 Z A M), (A 27, xc27 Z A M), (A 28, xc28 Z A M), (A 29, xc29 Z A M), (A 30, xc30 Z A M), (A 31, xc31 Z A M), (A 0, xc0 Z A N), (A 1, xc1 Z A N), (A 2, xc2 Z A N), (A 3, xc3 Z A N), (A 4, xc4 Z A N), (A 5, xc5 Z A N), (A 6, xc6 Z A N), (A 7, xc7 Z A N), (A 8, xc8 Z A N), (A 9, xc9 Z A N), (A 10, xc10 Z A N), (A 11, xc11 Z A N), (A 12, xc12 Z A N), (A 13, xc13 Z A N), (A 14, xc14 Z A N), (A 15, xc15 Z A N), (A 16, xc16 Z A N), (A 17, xc17 Z A N), (A 18, xc18 Z A N), (A 19, xc19 Z A N), (A 32, xc32 Z A N)] := hD
  refine lv_istore (lv' := [(5, .int r), (4, .int (nI i)), (3, .ref (A 32)), (2, .ref (A 20)), (1, .ref (A 0)), (0, .ref b)]) hx hb d_L_law_519 hl (by decide) rfl (fun ls hl => ?_)
  refine lv_aload_n hx hb d_L_law_521 rfl (lv_at hl 3 rfl) ?_
  refine xl_arg hx hb hX hbl hbA hS hL hl (p0 := 5) (p4 := 1) rfl rfl 1 (by omega) (by decide) d_L_law_522 d_L_law_523 d_L_law_525 d_L_law_526 d_L_law_527 ?_
  have hPc := hP.sub (ws' := [(A 20, xc20 Z A M), (A 21, xc21 Z A M), (A 22, xc22 Z A M), (A 23, xc23 Z A M), (A 24, xc24 Z A M), (A 25, xc25 Z A M), (A 26, xc26 Z A M), (A 27, xc27 Z A M), (A 28, xc28 Z A M), (A 29, xc29 Z A M), (A 30, xc30 Z A M), (A 31, xc31 Z A M)]) [0, 1, 2, 3, 4, 5, 6, 7, 8, 9, 10, 11] rfl
  have hDc := hD.sub (ws' := [(A 20, xc20 Z A M), (A 21, xc21 Z A M), (A 22, xc22 Z A M), (A 23, xc23 Z A M), (A 24, xc24 Z A M), (A 25, xc25 Z A M), (A 26, xc26 Z A M), (A 27, xc27 Z A M), (A 28, xc28 Z A M), (A 29, xc29 Z A M), (A 30, xc30 Z A M), (A 31, xc31 Z A M)]) [0, 1, 2, 3, 4, 5, 6, 7, 8, 9, 10, 11] (by decide) rfl
  refine xk_i (wc := [(A 20, xc20 Z A M), (A 21, xc21 Z A M), (A 22, xc22 Z A M), (A 23, xc23 Z A M), (A 24, xc24 Z A M), (A 25, xc25 Z A M), (A 26, xc26 Z A M), (A 27, xc27 Z A M), (A 28, xc28 Z A M), (A 29, xc29 Z A M), (A 30, xc30 Z A M), (A 31, xc31 Z A M)]) (wr := [(A 0, xc0 Z A N), (A 1, xc1 Z A N), (A 2, xc2 Z A N), (A 3, xc3 Z A N), (A 4, xc4 Z A N), (A 5, xc5 Z A N), (A 6, xc6 Z A N), (A 7, xc7 Z A N), (A 8, xc8 Z A N), (A 9, xc9 Z A N), (A 10, xc10 Z A N), (A 11, xc11 Z A N), (A 12, xc12 Z A N), (A 13, xc13 Z A N), (A 14, xc14 Z A N), (A 15, xc15 Z A N), (A 16, xc16 Z A N), (A 17, xc17 Z A N), (A 18, xc18 Z A N), (A 19, xc19 Z A N), (A 32, xc32 Z A N)]) (va_runV (As := [.int (sc (i + 1))]) (rest := []) ⟨hx, hb, hml, hown, hts⟩ (c_R_tickA l dC dI Z A _ M (sc (i + 1)) hI0) (cwV 1 hts (xw_V _ tw_998 tw_999 tw_1000 tw_12 tw_1001) rfl rfl rfl (by decide +kernel) ⟨Nat.le_of_ble_eq_true rfl, Nat.le_of_ble_eq_true rfl⟩) ⟨xB_blind, va_recv (q0 := 0) (ci := 10) hK hP rfl rfl, fun U hU hW => ⟨rfl, xB_at hPc hK hDc hq U hU hW⟩⟩ rfl rfl hl.1 rfl (lv_room (Nat.le_of_ble_eq_true rfl)) d_L_law_528 ⟨Nat.le_trans (Nat.le_refl _) hcl, Nat.le_trans (Nat.le_refl _) hsl⟩) hP hD hS hA [0, 1, 2, 3, 4, 5, 6, 7, 8, 9, 10, 11] [12, 13, 14, 15, 16, 17, 18, 19, 20, 21, 22, 23, 24, 25, 26, 27, 28, 29, 30, 31, 32] rfl rfl (by decide) (by decide) (fun r2 u H locs hu hP hD hS => ?_)
  have hP : va_P (dC, dI) xcl [(A 0, xc0 Z A N), (A 1, xc1 Z A N), (A 2, xc2 Z A N), (A 3, xc3 Z A N), (A 4, xc4 Z A N), (A 5, xc5 Z A N), (A 6, xc6 Z A N), (A 7, xc7 Z A N), (A 8, xc8 Z A N), (A 9, xc9 Z A N), (A 10, xc10 Z A N), (A 11, xc11 Z A N), (A 12, xc12 Z A N), (A 13, xc13 Z A N), (A 14, xc14 Z A N), (A 15, xc15 Z A N), (A 16, xc16 Z A N), (A 17, xc17 Z A N), (A 18, xc18 Z A N), (A 19, xc19 Z A N), (A 32, xc32 Z A N), (A 20, xc20 Z A (ap_R_tickA M u)), (A 21, xc21 Z A (ap_R_tickA M u)), (A 22, xc22 Z A (ap_R_tickA M u)), (A 23, xc23 Z A (ap_R_tickA M u)), (A 24, xc24 Z A (ap_R_tickA M u)), (A 25, xc25 Z A (ap_R_tickA M u)), (A 26, xc26 Z A (ap_R_tickA M u)), (A 27, xc27 Z A (ap_R_tickA M u)), (A 28, xc28 Z A (ap_R_tickA M u)), (A 29, xc29 Z A (ap_R_tickA M u)), (A 30, xc30 Z A (ap_R_tickA M u)), (A 31, xc31 Z A (ap_R_tickA M u))] H := hP
  have hD : va_D AA [(A 0, xc0 Z A N), (A 1, xc1 Z A N), (A 2, xc2 Z A N), (A 3, xc3 Z A N), (A 4, xc4 Z A N), (A 5, xc5 Z A N), (A 6, xc6 Z A N), (A 7, xc7 Z A N), (A 8, xc8 Z A N), (A 9, xc9 Z A N), (A 10, xc10 Z A N), (A 11, xc11 Z A N), (A 12, xc12 Z A N), (A 13, xc13 Z A N), (A 14, xc14 Z A N), (A 15, xc15 Z A N), (A 16, xc16 Z A N), (A 17, xc17 Z A N), (A 18, xc18 Z A N), (A 19, xc19 Z A N), (A 32, xc32 Z A N), (A 20, xc20 Z A (ap_R_tickA M u)), (A 21, xc21 Z A (ap_R_tickA M u)), (A 22, xc22 Z A (ap_R_tickA M u)), (A 23, xc23 Z A (ap_R_tickA M u)), (A 24, xc24 Z A (ap_R_tickA M u)), (A 25, xc25 Z A (ap_R_tickA M u)), (A 26, xc26 Z A (ap_R_tickA M u)), (A 27, xc27 Z A (ap_R_tickA M u)), (A 28, xc28 Z A (ap_R_tickA M u)), (A 29, xc29 Z A (ap_R_tickA M u)), (A 30, xc30 Z A (ap_R_tickA M u)), (A 31, xc31 Z A (ap_R_tickA M u))] := hD
  refine lv_istore (lv' := [(6, .int r2), (5, .int r), (4, .int (nI i)), (3, .ref (A 32)), (2, .ref (A 20)), (1, .ref (A 0)), (0, .ref b)]) hx hb d_L_law_531 hl (by decide) rfl (fun ls hl => ?_)
  refine lv_aload_n hx hb d_L_law_533 rfl (lv_at hl 4 rfl) ?_
  have hPc := hP.sub (ws' := [(A 20, xc20 Z A (ap_R_tickA M u))]) [21] rfl
  have hDc := hD.sub (ws' := [(A 20, xc20 Z A (ap_R_tickA M u))]) [21] (by decide) rfl
  refine xk_p (va_runV (As := []) (rest := []) ⟨hx, hb, hml, hown, hts⟩ (c_R_thrown l dC dI Z A _ (ap_R_tickA M u)) (cwV 0 hts (xw_V _ tw_916 tw_917 tw_918 tw_12 tw_919) rfl rfl rfl (by decide +kernel) ⟨Nat.le_of_ble_eq_true rfl, Nat.le_of_ble_eq_true rfl⟩) ⟨xB_blind, va_recv (q0 := 21) (ci := 10) hK hP rfl rfl, fun U hU hW => ⟨rfl, xB_at hPc hK hDc hq U hU hW⟩⟩ rfl rfl hl.1 rfl (lv_room (Nat.le_of_ble_eq_true rfl)) d_L_law_534 ⟨Nat.le_trans (Nat.le_refl _) hcl, Nat.le_trans (Nat.le_refl _) hsl⟩) ?_
  refine lv_iload hx hb d_L_law_537 (lv_at hl 1 rfl) ?_
  have ht : F_R_thrown (ap_R_tickA M u) = r := by
    have e2 : u = (F_R_tickA M (sc (i + 1))).2 := congrArg Prod.snd hu
    rw [e2]
    exact heq.trans (congrArg Prod.fst hG).symm
  refine lv_icmp_eq (tgt := 544) hx hb d_L_law_539 rfl (fun _ => ?_) (fun h => absurd ht h)
  refine lv_iload hx hb d_L_law_544 (lv_at hl 1 rfl) ?_
  refine lv_if_ne (tgt := 561) hx hb d_L_law_546 rfl (fun _ => ?_) (fun h0 => ?_)
  · refine lv_goto (tgt := 671) hx hb d_L_law_561 rfl ?_
    exact k N u H locs ls (congrArg Prod.snd hG) (congrArg Prod.snd hu) (show va_P (dC, dI) xcl (xAll Z A (xmix N (ap_R_tickA M u))) H from hP.sub [0, 1, 2, 3, 4, 5, 6, 7, 8, 9, 10, 11, 12, 13, 14, 15, 16, 17, 18, 19, 21, 22, 23, 24, 25, 26, 27, 28, 29, 30, 31, 32, 20] rfl) (show va_D AA (xAll Z A (xmix N (ap_R_tickA M u))) from hD.sub [0, 1, 2, 3, 4, 5, 6, 7, 8, 9, 10, 11, 12, 13, 14, 15, 16, 17, 18, 19, 21, 22, 23, 24, 25, 26, 27, 28, 29, 30, 31, 32, 20] (by decide) rfl) hS (lv_sub hl [2, 3, 4, 5, 6] rfl)
  · refine lv_aload_n hx hb d_L_law_549 rfl (lv_at hl 3 rfl) ?_
    refine lv_iconst (v := 0) hx hb d_L_law_550 (by decide) ?_
    refine va_lald (D := (dC, dI)) hx hb hK hP 20 1 rfl rfl (by unfold vp_in; decide) d_L_law_551 ?_
    refine W.eq (g2 := F0 m 552 ls [.long ((N.2.2.2 32) 0)]) rfl ?_
    refine lv_iload hx hb d_L_law_552 (lv_at hl 0 rfl) ?_
    refine lv_i2l (v := r2.toInt64) hx hb d_L_law_554 rfl ?_
    refine W.lcmp hx hb d_L_law_555 ?_
    have hv : (N.2.2.2 32) 0 = r2.toInt64 := by
      have e1 : N = (G_L_tick M (sc (i + 1))).2 := congrArg Prod.snd hG
      have e2 : r2 = (F_R_tickA M (sc (i + 1))).1 := congrArg Prod.fst hu
      rw [e1, e2]
      exact heq2 ((congrArg Prod.fst hG).symm.trans h0)
    refine lv_if_eq (tgt := 561) hx hb d_L_law_556 rfl (fun _ => ?_) (fun h => absurd ((lg_cmp_eq _ _).mpr hv) h)
    refine lv_goto (tgt := 671) hx hb d_L_law_561 rfl ?_
    exact k N u H locs ls (congrArg Prod.snd hG) (congrArg Prod.snd hu) (show va_P (dC, dI) xcl (xAll Z A (xmix N (ap_R_tickA M u))) H from hP.sub [0, 1, 2, 3, 4, 5, 6, 7, 8, 9, 10, 11, 12, 13, 14, 15, 16, 17, 18, 19, 21, 22, 23, 24, 25, 26, 27, 28, 29, 30, 31, 32, 20] rfl) (show va_D AA (xAll Z A (xmix N (ap_R_tickA M u))) from hD.sub [0, 1, 2, 3, 4, 5, 6, 7, 8, 9, 10, 11, 12, 13, 14, 15, 16, 17, 18, 19, 21, 22, 23, 24, 25, 26, 27, 28, 29, 30, 31, 32, 20] (by decide) rfl) hS (lv_sub hl [2, 3, 4, 5, 6] rfl)
