set_option maxRecDepth 20000 in
theorem tw_732 : Cond.methodLink "CentrifugeUnitLaw" 112 ⟨"CentrifugeUnitLaw", "look", "(LCentrifugeUnit;I[J)I"⟩ ∈ xw := xw_of (List.mem_append_right _ (List.mem_of_getElem? (i := 732) (by decide +kernel))) rfl
set_option maxRecDepth 20000 in
theorem tw_733 : Cond.static ⟨"CentrifugeUnitLaw", "look", "(LCentrifugeUnit;I[J)I"⟩ ∈ xw := xw_of (List.mem_append_right _ (List.mem_of_getElem? (i := 733) (by decide +kernel))) rfl
set_option maxRecDepth 20000 in
theorem tw_734 : Cond.codeWith ⟨"CentrifugeUnitLaw", "look", "(LCentrifugeUnit;I[J)I"⟩ method_14_code 4 (Option.some Jvm.ClassFile.FieldType.int) [(0, 9, 12, 13)] ∈ xw := xw_of (List.mem_append_right _ (List.mem_of_getElem? (i := 734) (by decide +kernel))) rfl
set_option maxRecDepth 20000 in
theorem tw_740 : Cond.methodLink "CentrifugeUnitLaw" 128 ⟨"CentrifugeUnitLaw", "record", "(LCentrifugeUnit;II[J)I"⟩ ∈ xw := xw_of (List.mem_append_right _ (List.mem_of_getElem? (i := 740) (by decide +kernel))) rfl
set_option maxRecDepth 20000 in
theorem tw_741 : Cond.static ⟨"CentrifugeUnitLaw", "record", "(LCentrifugeUnit;II[J)I"⟩ ∈ xw := xw_of (List.mem_append_right _ (List.mem_of_getElem? (i := 741) (by decide +kernel))) rfl
set_option maxRecDepth 20000 in
theorem tw_742 : Cond.codeWith ⟨"CentrifugeUnitLaw", "record", "(LCentrifugeUnit;II[J)I"⟩ method_15_code 5 (Option.some Jvm.ClassFile.FieldType.int) [(0, 9, 12, 13), (0, 9, 16, 59)] ∈ xw := xw_of (List.mem_append_right _ (List.mem_of_getElem? (i := 742) (by decide +kernel))) rfl
set_option maxRecDepth 20000 in
theorem tw_916 : Cond.methodLink "CentrifugeUnitLaw" 132 ⟨"CentrifugeUnitModel", "thrown", "()I"⟩ ∈ xw := xw_of (List.mem_append_right _ (List.mem_of_getElem? (i := 916) (by decide +kernel))) rfl
set_option maxRecDepth 20000 in
theorem tw_917 : Cond.instanceMethod ⟨"CentrifugeUnitModel", "thrown", "()I"⟩ ∈ xw := xw_of (List.mem_append_right _ (List.mem_of_getElem? (i := 917) (by decide +kernel))) rfl
set_option maxRecDepth 20000 in
theorem tw_918 : Cond.selects "CentrifugeUnitModel" ⟨"CentrifugeUnitModel", "thrown", "()I"⟩ ⟨"CentrifugeUnitModel", "thrown", "()I"⟩ ∈ xw := xw_of (List.mem_append_right _ (List.mem_of_getElem? (i := 918) (by decide +kernel))) rfl
set_option maxRecDepth 20000 in
theorem tw_919 : Cond.code ⟨"CentrifugeUnitModel", "thrown", "()I"⟩ prog_12_method_2_code 1 (Option.some Jvm.ClassFile.FieldType.int) ∈ xw := xw_of (List.mem_append_right _ (List.mem_of_getElem? (i := 919) (by decide +kernel))) rfl
set_option maxRecDepth 20000 in
theorem tw_1045 : Cond.methodLink "CentrifugeUnitLaw" 114 ⟨"CentrifugeUnitModel", "look", "(I)I"⟩ ∈ xw := xw_of (List.mem_append_right _ (List.mem_of_getElem? (i := 1045) (by decide +kernel))) rfl
set_option maxRecDepth 20000 in
theorem tw_1046 : Cond.instanceMethod ⟨"CentrifugeUnitModel", "look", "(I)I"⟩ ∈ xw := xw_of (List.mem_append_right _ (List.mem_of_getElem? (i := 1046) (by decide +kernel))) rfl
set_option maxRecDepth 20000 in
theorem tw_1047 : Cond.selects "CentrifugeUnitModel" ⟨"CentrifugeUnitModel", "look", "(I)I"⟩ ⟨"CentrifugeUnitModel", "look", "(I)I"⟩ ∈ xw := xw_of (List.mem_append_right _ (List.mem_of_getElem? (i := 1047) (by decide +kernel))) rfl
set_option maxRecDepth 20000 in
theorem tw_1048 : Cond.code ⟨"CentrifugeUnitModel", "look", "(I)I"⟩ prog_12_method_28_code 2 (Option.some Jvm.ClassFile.FieldType.int) ∈ xw := xw_of (List.mem_append_right _ (List.mem_of_getElem? (i := 1048) (by decide +kernel))) rfl
set_option maxRecDepth 20000 in
theorem tw_1062 : Cond.methodLink "CentrifugeUnitLaw" 131 ⟨"CentrifugeUnitModel", "record", "(II)J"⟩ ∈ xw := xw_of (List.mem_append_right _ (List.mem_of_getElem? (i := 1062) (by decide +kernel))) rfl
set_option maxRecDepth 20000 in
theorem tw_1063 : Cond.instanceMethod ⟨"CentrifugeUnitModel", "record", "(II)J"⟩ ∈ xw := xw_of (List.mem_append_right _ (List.mem_of_getElem? (i := 1063) (by decide +kernel))) rfl
set_option maxRecDepth 20000 in
theorem tw_1064 : Cond.selects "CentrifugeUnitModel" ⟨"CentrifugeUnitModel", "record", "(II)J"⟩ ⟨"CentrifugeUnitModel", "record", "(II)J"⟩ ∈ xw := xw_of (List.mem_append_right _ (List.mem_of_getElem? (i := 1064) (by decide +kernel))) rfl
set_option maxRecDepth 20000 in
theorem tw_1065 : Cond.code ⟨"CentrifugeUnitModel", "record", "(II)J"⟩ prog_12_method_32_code 5 (Option.some Jvm.ClassFile.FieldType.long) ∈ xw := xw_of (List.mem_append_right _ (List.mem_of_getElem? (i := 1065) (by decide +kernel))) rfl
theorem d_L_law_536 : decode code 536 = .ok (.aload_n 1, 1) := by decide +kernel
theorem d_L_law_537 : decode code 537 = .ok (.aload_n 0, 1) := by decide +kernel
theorem d_L_law_538 : decode code 538 = .ok (.iload 4, 2) := by decide +kernel
theorem d_L_law_540 : decode code 540 = .ok (.iconst 1, 1) := by decide +kernel
theorem d_L_law_541 : decode code 541 = .ok (.iadd, 1) := by decide +kernel
theorem d_L_law_542 : decode code 542 = .ok (.iaload, 1) := by decide +kernel
theorem d_L_law_543 : decode code 543 = .ok (.aload_n 3, 1) := by decide +kernel
theorem d_L_law_544 : decode code 544 = .ok (.invokestatic 112, 3) := by decide +kernel
theorem d_L_law_547 : decode code 547 = .ok (.istore 5, 2) := by decide +kernel
theorem d_L_law_549 : decode code 549 = .ok (.aload_n 2, 1) := by decide +kernel
theorem d_L_law_550 : decode code 550 = .ok (.aload_n 0, 1) := by decide +kernel
theorem d_L_law_551 : decode code 551 = .ok (.iload 4, 2) := by decide +kernel
theorem d_L_law_553 : decode code 553 = .ok (.iconst 1, 1) := by decide +kernel
theorem d_L_law_554 : decode code 554 = .ok (.iadd, 1) := by decide +kernel
theorem d_L_law_555 : decode code 555 = .ok (.iaload, 1) := by decide +kernel
theorem d_L_law_556 : decode code 556 = .ok (.invokevirtual 114, 3) := by decide +kernel
theorem d_L_law_559 : decode code 559 = .ok (.istore 6, 2) := by decide +kernel
theorem d_L_law_561 : decode code 561 = .ok (.goto 109, 3) := by decide +kernel
set_option maxHeartbeats 4000000 in
set_option maxRecDepth 100000 in
theorem law_c12 (l : Launch) (htl : l.stackTraces = false) (dC : Nat → ClassId) (dI : Nat → Nat → Nat) (Z : Nat → ClassId) (A : Nat → Nat) (M : XM) {p : Program} {e : Env} {s : State} {m : MethodId} {below : List Frame} {meth : Method} {c : Code} {b L i : Nat} {sc : Nat → Int32} {AA : Nat → Prop} {Q : State → Prop} {H : Heap} {locs : List Loc} {ls : Array Slot} {cells slots : Nat}
    (hx : p.tables.exec = Jvm.exec) (hb : c.code = code) (hml : c.maxLocals = 8) (hown : s.vm.findClass "CentrifugeUnitLaw" = some m.cls) (htt : ∀ w ∈ xw, w.before #[Value.ref b] s = true) (hq : xq s) (hs : xs s) (hK : va_K (dC, dI) xcl (xty Z) s) (hA : ∀ q, s.heap.size ≤ q → AA q) (hA0 : ∀ q : Nat, q < s.heap.size → ¬ AA q) (hX : va_X b L sc s s.heap) (hbl : b < s.heap.size) (hL : L < 2 ^ 31) (hi : i + 6 ≤ L)
    (hP : va_P (dC, dI) xcl (xAll Z A M) H) (hD : va_D AA (xAll Z A M)) (hS : va_S AA s.heap H locs) (hl : lv_has ls 8 [(4, .int (nI i)), (3, .ref (A 32)), (2, .ref (A 20)), (1, .ref (A 0)), (0, .ref b)]) (hcl : cells + 1 ≤ room_1.cells) (hsl : slots + 6 ≤ room_1.slots)
    (k : ∀ (N : XM) (u : Int32) (H : Heap) (locs : List Loc) (ls : Array Slot), N = (G_L_look M (sc (i + 1))).2 → u = (F_R_look M (sc (i + 1))).2 → va_P (dC, dI) xcl (xAll Z A (xmix N (ap_R_look M u))) H → va_D AA (xAll Z A (xmix N (ap_R_look M u))) → va_S AA s.heap H locs → lv_has ls 8 [(4, .int (nI i)), (3, .ref (A 32)), (2, .ref (A 20)), (1, .ref (A 0)), (0, .ref b)] → W p l e room_1 s m #[Value.ref b] below meth c H locs (cells + 1) (slots + 6) Q (F0 m 670 ls [])) : W p l e room_1 s m #[Value.ref b] below meth c H locs cells slots Q (F0 m 536 ls []) := by
  have hbA : ¬ AA b := hA0 b hbl
  have hts : ∀ w ∈ (Cond.initialized "CentrifugeUnitLaw" :: xw), w.before #[Value.ref b] s = true := fun w h => htt w (by rcases List.mem_cons.mp h with rfl | h; exact tw_0; exact h)
  have hP : va_P (dC, dI) xcl [(A 0, xc0 Z A M), (A 1, xc1 Z A M), (A 2, xc2 Z A M), (A 3, xc3 Z A M), (A 4, xc4 Z A M), (A 5, xc5 Z A M), (A 6, xc6 Z A M), (A 7, xc7 Z A M), (A 8, xc8 Z A M), (A 9, xc9 Z A M), (A 10, xc10 Z A M), (A 11, xc11 Z A M), (A 12, xc12 Z A M), (A 13, xc13 Z A M), (A 14, xc14 Z A M), (A 15, xc15 Z A M), (A 16, xc16 Z A M), (A 17, xc17 Z A M), (A 18, xc18 Z A M), (A 19, xc19 Z A M), (A 20, xc20 Z A M), (A 21, xc21 Z A M), (A 22, xc22 Z A M), (A 23, xc23 Z A M), (A 24, xc24 Z A M), (A 25, xc25 Z A M), (A 26, xc26 Z A M), (A 27, xc27 Z A M), (A 28, xc28 Z A M), (A 29, xc29 Z A M), (A 30, xc30 Z A M), (A 31, xc31 Z A M), (A 32, xc32 Z A M)] H := hP
  have hD : va_D AA [(A 0, xc0 Z A M), (A 1, xc1 Z A M), (A 2, xc2 Z A M), (A 3, xc3 Z A M), (A 4, xc4 Z A M), (A 5, xc5 Z A M), (A 6, xc6 Z A M), (A 7, xc7 Z A M), (A 8, xc8 Z A M), (A 9, xc9 Z A M), (A 10, xc10 Z A M), (A 11, xc11 Z A M), (A 12, xc12 Z A M), (A 13, xc13 Z A M), (A 14, xc14 Z A M), (A 15, xc15 Z A M), (A 16, xc16 Z A M), (A 17, xc17 Z A M), (A 18, xc18 Z A M), (A 19, xc19 Z A M), (A 20, xc20 Z A M), (A 21, xc21 Z A M), (A 22, xc22 Z A M), (A 23, xc23 Z A M), (A 24, xc24 Z A M), (A 25, xc25 Z A M), (A 26, xc26 Z A M), (A 27, xc27 Z A M), (A 28, xc28 Z A M), (A 29, xc29 Z A M), (A 30, xc30 Z A M), (A 31, xc31 Z A M), (A 32, xc32 Z A M)] := hD
  refine lv_aload_n hx hb d_L_law_536 rfl (lv_at hl 3 rfl) ?_
  refine xl_arg hx hb hX hbl hbA hS hL hl (p0 := 4) (p4 := 0) rfl rfl 1 (by omega) (by decide) d_L_law_537 d_L_law_538 d_L_law_540 d_L_law_541 d_L_law_542 ?_
  refine lv_aload_n hx hb d_L_law_543 rfl (lv_at hl 1 rfl) ?_
  have hPc := hP.sub (ws' := [(A 0, xc0 Z A M), (A 1, xc1 Z A M), (A 2, xc2 Z A M), (A 3, xc3 Z A M), (A 4, xc4 Z A M), (A 5, xc5 Z A M), (A 6, xc6 Z A M), (A 7, xc7 Z A M), (A 8, xc8 Z A M), (A 9, xc9 Z A M), (A 10, xc10 Z A M), (A 11, xc11 Z A M), (A 12, xc12 Z A M), (A 13, xc13 Z A M), (A 14, xc14 Z A M), (A 15, xc15 Z A M), (A 16, xc16 Z A M), (A 17, xc17 Z A M), (A 18, xc18 Z A M), (A 19, xc19 Z A M), (A 32, xc32 Z A M)]) [0, 1, 2, 3, 4, 5, 6, 7, 8, 9, 10, 11, 12, 13, 14, 15, 16, 17, 18, 19, 32] rfl
  have hDc := hD.sub (ws' := [(A 0, xc0 Z A M), (A 1, xc1 Z A M), (A 2, xc2 Z A M), (A 3, xc3 Z A M), (A 4, xc4 Z A M), (A 5, xc5 Z A M), (A 6, xc6 Z A M), (A 7, xc7 Z A M), (A 8, xc8 Z A M), (A 9, xc9 Z A M), (A 10, xc10 Z A M), (A 11, xc11 Z A M), (A 12, xc12 Z A M), (A 13, xc13 Z A M), (A 14, xc14 Z A M), (A 15, xc15 Z A M), (A 16, xc16 Z A M), (A 17, xc17 Z A M), (A 18, xc18 Z A M), (A 19, xc19 Z A M), (A 32, xc32 Z A M)]) [0, 1, 2, 3, 4, 5, 6, 7, 8, 9, 10, 11, 12, 13, 14, 15, 16, 17, 18, 19, 32] (by decide) rfl
  refine xk_i (wc := [(A 0, xc0 Z A M), (A 1, xc1 Z A M), (A 2, xc2 Z A M), (A 3, xc3 Z A M), (A 4, xc4 Z A M), (A 5, xc5 Z A M), (A 6, xc6 Z A M), (A 7, xc7 Z A M), (A 8, xc8 Z A M), (A 9, xc9 Z A M), (A 10, xc10 Z A M), (A 11, xc11 Z A M), (A 12, xc12 Z A M), (A 13, xc13 Z A M), (A 14, xc14 Z A M), (A 15, xc15 Z A M), (A 16, xc16 Z A M), (A 17, xc17 Z A M), (A 18, xc18 Z A M), (A 19, xc19 Z A M), (A 32, xc32 Z A M)]) (wr := [(A 20, xc20 Z A M), (A 21, xc21 Z A M), (A 22, xc22 Z A M), (A 23, xc23 Z A M), (A 24, xc24 Z A M), (A 25, xc25 Z A M), (A 26, xc26 Z A M), (A 27, xc27 Z A M), (A 28, xc28 Z A M), (A 29, xc29 Z A M), (A 30, xc30 Z A M), (A 31, xc31 Z A M)]) (xt_runSW (n := 3) (As := [.ref (A 0), .int (sc (i + 1)), .ref (A 32)]) (rest := []) ⟨hx, hb, hml, hown, hts⟩ (c_L_look l htl dC dI Z A _ M (sc (i + 1))) List.mem_cons_self rfl rfl ⟨Nat.le_of_ble_eq_true rfl, Nat.le_of_ble_eq_true rfl⟩ (xw_call _ tw_734) (htt _ tw_732) (htt _ tw_733) (htt _ tw_0) (by decide) (by decide +kernel) ⟨xBs_blind, fun U hU hW => ⟨rfl, xBs_in hPc hK hDc hq hs hS hA0 U hU hW⟩⟩ rfl rfl hl.1 rfl (lv_room (Nat.le_of_ble_eq_true rfl)) d_L_law_544 ⟨hcl, hsl⟩) hP hD hS hA [0, 1, 2, 3, 4, 5, 6, 7, 8, 9, 10, 11, 12, 13, 14, 15, 16, 17, 18, 19, 32] [20, 21, 22, 23, 24, 25, 26, 27, 28, 29, 30, 31] rfl rfl (by decide) (by decide) (fun r N H locs hG hP hD hS => ?_)
  have hP : va_P (dC, dI) xcl [(A 20, xc20 Z A M), (A 21, xc21 Z A M), (A 22, xc22 Z A M), (A 23, xc23 Z A M), (A 24, xc24 Z A M), (A 25, xc25 Z A M), (A 26, xc26 Z A M), (A 27, xc27 Z A M), (A 28, xc28 Z A M), (A 29, xc29 Z A M), (A 30, xc30 Z A M), (A 31, xc31 Z A M), (A 0, xc0 Z A N), (A 1, xc1 Z A N), (A 2, xc2 Z A N), (A 3, xc3 Z A N), (A 4, xc4 Z A N), (A 5, xc5 Z A N), (A 6, xc6 Z A N), (A 7, xc7 Z A N), (A 8, xc8 Z A N), (A 9, xc9 Z A N), (A 10, xc10 Z A N), (A 11, xc11 Z A N), (A 12, xc12 Z A N), (A 13, xc13 Z A N), (A 14, xc14 Z A N), (A 15, xc15 Z A N), (A 16, xc16 Z A N), (A 17, xc17 Z A N), (A 18, xc18 Z A N), (A 19, xc19 Z A N), (A 32, xc32 Z A N)] H := hP
  have hD : va_D AA [(A 20, xc20 Z A M), (A 21, xc21 Z A M), (A 22, xc22 Z A M), (A 23, xc23 Z A M), (A 24, xc24 Z A M), (A 25, xc25 Z A M), (A 26, xc26 Z A M), (A 27, xc27 Z A M), (A 28, xc28 Z A M), (A 29, xc29 Z A M), (A 30, xc30 Z A M), (A 31, xc31 Z A M), (A 0, xc0 Z A N), (A 1, xc1 Z A N), (A 2, xc2 Z A N), (A 3, xc3 Z A N), (A 4, xc4 Z A N), (A 5, xc5 Z A N), (A 6, xc6 Z A N), (A 7, xc7 Z A N), (A 8, xc8 Z A N), (A 9, xc9 Z A N), (A 10, xc10 Z A N), (A 11, xc11 Z A N), (A 12, xc12 Z A N), (A 13, xc13 Z A N), (A 14, xc14 Z A N), (A 15, xc15 Z A N), (A 16, xc16 Z A N), (A 17, xc17 Z A N), (A 18, xc18 Z A N), (A 19, xc19 Z A N), (A 32, xc32 Z A N)] := hD
  refine lv_istore (lv' := [(5, .int r), (4, .int (nI i)), (3, .ref (A 32)), (2, .ref (A 20)), (1, .ref (A 0)), (0, .ref b)]) hx hb d_L_law_547 hl (by decide) rfl (fun ls hl => ?_)
  refine lv_aload_n hx hb d_L_law_549 rfl (lv_at hl 3 rfl) ?_
  refine xl_arg hx hb hX hbl hbA hS hL hl (p0 := 5) (p4 := 1) rfl rfl 1 (by omega) (by decide) d_L_law_550 d_L_law_551 d_L_law_553 d_L_law_554 d_L_law_555 ?_
  have hPc := hP.sub (ws' := [(A 20, xc20 Z A M)]) [0] rfl
  have hDc := hD.sub (ws' := [(A 20, xc20 Z A M)]) [0] (by decide) rfl
  refine xk_i (wc := [(A 20, xc20 Z A M)]) (wr := [(A 21, xc21 Z A M), (A 22, xc22 Z A M), (A 23, xc23 Z A M), (A 24, xc24 Z A M), (A 25, xc25 Z A M), (A 26, xc26 Z A M), (A 27, xc27 Z A M), (A 28, xc28 Z A M), (A 29, xc29 Z A M), (A 30, xc30 Z A M), (A 31, xc31 Z A M), (A 0, xc0 Z A N), (A 1, xc1 Z A N), (A 2, xc2 Z A N), (A 3, xc3 Z A N), (A 4, xc4 Z A N), (A 5, xc5 Z A N), (A 6, xc6 Z A N), (A 7, xc7 Z A N), (A 8, xc8 Z A N), (A 9, xc9 Z A N), (A 10, xc10 Z A N), (A 11, xc11 Z A N), (A 12, xc12 Z A N), (A 13, xc13 Z A N), (A 14, xc14 Z A N), (A 15, xc15 Z A N), (A 16, xc16 Z A N), (A 17, xc17 Z A N), (A 18, xc18 Z A N), (A 19, xc19 Z A N), (A 32, xc32 Z A N)]) (va_runV (As := [.int (sc (i + 1))]) (rest := []) ⟨hx, hb, hml, hown, hts⟩ (c_R_look l dC dI Z A _ M (sc (i + 1))) (cwV 1 hts (xw_V _ tw_1045 tw_1046 tw_1047 tw_12 tw_1048) rfl rfl rfl (by decide +kernel) ⟨Nat.le_of_ble_eq_true rfl, Nat.le_of_ble_eq_true rfl⟩) ⟨xB_blind, va_recv (q0 := 0) (ci := 10) hK hP rfl rfl, fun U hU hW => ⟨rfl, xB_at hPc hK hDc hq U hU hW⟩⟩ rfl rfl hl.1 rfl (lv_room (Nat.le_of_ble_eq_true rfl)) d_L_law_556 ⟨Nat.le_trans (Nat.le_refl _) hcl, Nat.le_trans (Nat.le_refl _) hsl⟩) hP hD hS hA [0] [1, 2, 3, 4, 5, 6, 7, 8, 9, 10, 11, 12, 13, 14, 15, 16, 17, 18, 19, 20, 21, 22, 23, 24, 25, 26, 27, 28, 29, 30, 31, 32] rfl rfl (by decide) (by decide) (fun r2 u H locs hu hP hD hS => ?_)
  have hP : va_P (dC, dI) xcl [(A 21, xc21 Z A (ap_R_look M u)), (A 22, xc22 Z A (ap_R_look M u)), (A 23, xc23 Z A (ap_R_look M u)), (A 24, xc24 Z A (ap_R_look M u)), (A 25, xc25 Z A (ap_R_look M u)), (A 26, xc26 Z A (ap_R_look M u)), (A 27, xc27 Z A (ap_R_look M u)), (A 28, xc28 Z A (ap_R_look M u)), (A 29, xc29 Z A (ap_R_look M u)), (A 30, xc30 Z A (ap_R_look M u)), (A 31, xc31 Z A (ap_R_look M u)), (A 0, xc0 Z A N), (A 1, xc1 Z A N), (A 2, xc2 Z A N), (A 3, xc3 Z A N), (A 4, xc4 Z A N), (A 5, xc5 Z A N), (A 6, xc6 Z A N), (A 7, xc7 Z A N), (A 8, xc8 Z A N), (A 9, xc9 Z A N), (A 10, xc10 Z A N), (A 11, xc11 Z A N), (A 12, xc12 Z A N), (A 13, xc13 Z A N), (A 14, xc14 Z A N), (A 15, xc15 Z A N), (A 16, xc16 Z A N), (A 17, xc17 Z A N), (A 18, xc18 Z A N), (A 19, xc19 Z A N), (A 32, xc32 Z A N), (A 20, xc20 Z A (ap_R_look M u))] H := hP
  have hD : va_D AA [(A 21, xc21 Z A (ap_R_look M u)), (A 22, xc22 Z A (ap_R_look M u)), (A 23, xc23 Z A (ap_R_look M u)), (A 24, xc24 Z A (ap_R_look M u)), (A 25, xc25 Z A (ap_R_look M u)), (A 26, xc26 Z A (ap_R_look M u)), (A 27, xc27 Z A (ap_R_look M u)), (A 28, xc28 Z A (ap_R_look M u)), (A 29, xc29 Z A (ap_R_look M u)), (A 30, xc30 Z A (ap_R_look M u)), (A 31, xc31 Z A (ap_R_look M u)), (A 0, xc0 Z A N), (A 1, xc1 Z A N), (A 2, xc2 Z A N), (A 3, xc3 Z A N), (A 4, xc4 Z A N), (A 5, xc5 Z A N), (A 6, xc6 Z A N), (A 7, xc7 Z A N), (A 8, xc8 Z A N), (A 9, xc9 Z A N), (A 10, xc10 Z A N), (A 11, xc11 Z A N), (A 12, xc12 Z A N), (A 13, xc13 Z A N), (A 14, xc14 Z A N), (A 15, xc15 Z A N), (A 16, xc16 Z A N), (A 17, xc17 Z A N), (A 18, xc18 Z A N), (A 19, xc19 Z A N), (A 32, xc32 Z A N), (A 20, xc20 Z A (ap_R_look M u))] := hD
  refine lv_istore (lv' := [(6, .int r2), (5, .int r), (4, .int (nI i)), (3, .ref (A 32)), (2, .ref (A 20)), (1, .ref (A 0)), (0, .ref b)]) hx hb d_L_law_559 hl (by decide) rfl (fun ls hl => ?_)
  refine lv_goto (tgt := 670) hx hb d_L_law_561 rfl ?_
  exact k N u H locs ls (congrArg Prod.snd hG) (congrArg Prod.snd hu) (show va_P (dC, dI) xcl (xAll Z A (xmix N (ap_R_look M u))) H from hP.sub [11, 12, 13, 14, 15, 16, 17, 18, 19, 20, 21, 22, 23, 24, 25, 26, 27, 28, 29, 30, 32, 0, 1, 2, 3, 4, 5, 6, 7, 8, 9, 10, 31] rfl) (show va_D AA (xAll Z A (xmix N (ap_R_look M u))) from hD.sub [11, 12, 13, 14, 15, 16, 17, 18, 19, 20, 21, 22, 23, 24, 25, 26, 27, 28, 29, 30, 32, 0, 1, 2, 3, 4, 5, 6, 7, 8, 9, 10, 31] (by decide) rfl) hS (lv_sub hl [2, 3, 4, 5, 6] rfl)
theorem d_L_law_603 : decode code 603 = .ok (.aload_n 1, 1) := by decide +kernel
theorem d_L_law_604 : decode code 604 = .ok (.aload_n 0, 1) := by decide +kernel
theorem d_L_law_605 : decode code 605 = .ok (.iload 4, 2) := by decide +kernel
theorem d_L_law_607 : decode code 607 = .ok (.iconst 1, 1) := by decide +kernel
theorem d_L_law_608 : decode code 608 = .ok (.iadd, 1) := by decide +kernel
theorem d_L_law_609 : decode code 609 = .ok (.iaload, 1) := by decide +kernel
theorem d_L_law_610 : decode code 610 = .ok (.aload_n 0, 1) := by decide +kernel
theorem d_L_law_611 : decode code 611 = .ok (.iload 4, 2) := by decide +kernel
theorem d_L_law_613 : decode code 613 = .ok (.iconst 2, 1) := by decide +kernel
theorem d_L_law_614 : decode code 614 = .ok (.iadd, 1) := by decide +kernel
theorem d_L_law_615 : decode code 615 = .ok (.iaload, 1) := by decide +kernel
theorem d_L_law_616 : decode code 616 = .ok (.aload_n 3, 1) := by decide +kernel
theorem d_L_law_617 : decode code 617 = .ok (.invokestatic 128, 3) := by decide +kernel
theorem d_L_law_620 : decode code 620 = .ok (.istore 5, 2) := by decide +kernel
theorem d_L_law_622 : decode code 622 = .ok (.aload_n 2, 1) := by decide +kernel
theorem d_L_law_623 : decode code 623 = .ok (.aload_n 0, 1) := by decide +kernel
theorem d_L_law_624 : decode code 624 = .ok (.iload 4, 2) := by decide +kernel
theorem d_L_law_626 : decode code 626 = .ok (.iconst 1, 1) := by decide +kernel
theorem d_L_law_627 : decode code 627 = .ok (.iadd, 1) := by decide +kernel
theorem d_L_law_628 : decode code 628 = .ok (.iaload, 1) := by decide +kernel
theorem d_L_law_629 : decode code 629 = .ok (.aload_n 0, 1) := by decide +kernel
theorem d_L_law_630 : decode code 630 = .ok (.iload 4, 2) := by decide +kernel
theorem d_L_law_632 : decode code 632 = .ok (.iconst 2, 1) := by decide +kernel
theorem d_L_law_633 : decode code 633 = .ok (.iadd, 1) := by decide +kernel
theorem d_L_law_634 : decode code 634 = .ok (.iaload, 1) := by decide +kernel
theorem d_L_law_635 : decode code 635 = .ok (.invokevirtual 131, 3) := by decide +kernel
theorem d_L_law_638 : decode code 638 = .ok (.lstore 6, 2) := by decide +kernel
theorem d_L_law_640 : decode code 640 = .ok (.aload_n 2, 1) := by decide +kernel
theorem d_L_law_641 : decode code 641 = .ok (.invokevirtual 132, 3) := by decide +kernel
theorem d_L_law_644 : decode code 644 = .ok (.iload 5, 2) := by decide +kernel
theorem d_L_law_646 : decode code 646 = .ok (.if_icmp .eq 5, 3) := by decide +kernel
theorem d_L_law_651 : decode code 651 = .ok (.iload 5, 2) := by decide +kernel
theorem d_L_law_653 : decode code 653 = .ok (.ifCond .ne 14, 3) := by decide +kernel
theorem d_L_law_656 : decode code 656 = .ok (.aload_n 3, 1) := by decide +kernel
theorem d_L_law_657 : decode code 657 = .ok (.iconst 0, 1) := by decide +kernel
theorem d_L_law_658 : decode code 658 = .ok (.laload, 1) := by decide +kernel
theorem d_L_law_659 : decode code 659 = .ok (.lload 6, 2) := by decide +kernel
theorem d_L_law_661 : decode code 661 = .ok (.lcmp, 1) := by decide +kernel
theorem d_L_law_662 : decode code 662 = .ok (.ifCond .eq 5, 3) := by decide +kernel
theorem d_L_law_667 : decode code 667 = .ok (.goto 3, 3) := by decide +kernel
set_option maxHeartbeats 4000000 in
set_option maxRecDepth 100000 in
theorem law_c16 (l : Launch) (htl : l.stackTraces = false) (dC : Nat → ClassId) (dI : Nat → Nat → Nat) (Z : Nat → ClassId) (A : Nat → Nat) (M : XM) {p : Program} {e : Env} {s : State} {m : MethodId} {below : List Frame} {meth : Method} {c : Code} {b L i : Nat} {sc : Nat → Int32} {AA : Nat → Prop} {Q : State → Prop} {H : Heap} {locs : List Loc} {ls : Array Slot} {cells slots : Nat}
    (hx : p.tables.exec = Jvm.exec) (hb : c.code = code) (hml : c.maxLocals = 8) (hown : s.vm.findClass "CentrifugeUnitLaw" = some m.cls) (htt : ∀ w ∈ xw, w.before #[Value.ref b] s = true) (hq : xq s) (hs : xs s) (hK : va_K (dC, dI) xcl (xty Z) s) (hA : ∀ q, s.heap.size ≤ q → AA q) (hA0 : ∀ q : Nat, q < s.heap.size → ¬ AA q) (hX : va_X b L sc s s.heap) (hbl : b < s.heap.size) (hL : L < 2 ^ 31) (hi : i + 6 ≤ L)
    (hP : va_P (dC, dI) xcl (xAll Z A M) H) (hD : va_D AA (xAll Z A M)) (hS : va_S AA s.heap H locs) (hl : lv_has ls 8 [(4, .int (nI i)), (3, .ref (A 32)), (2, .ref (A 20)), (1, .ref (A 0)), (0, .ref b)]) (hcl : cells + 1 ≤ room_1.cells) (hsl : slots + 6 ≤ room_1.slots)
    (heq : F_R_thrown (ap_R_record M (F_R_record M (sc (i + 1)) (sc (i + 2))).2) = (G_L_record M (sc (i + 1)) (sc (i + 2))).1) (heq2 : (G_L_record M (sc (i + 1)) (sc (i + 2))).1 = 0 → ((G_L_record M (sc (i + 1)) (sc (i + 2))).2.2.2.2 32) 0 = (F_R_record M (sc (i + 1)) (sc (i + 2))).1)
    (k : ∀ (N : XM) (u : Int32) (H : Heap) (locs : List Loc) (ls : Array Slot), N = (G_L_record M (sc (i + 1)) (sc (i + 2))).2 → u = (F_R_record M (sc (i + 1)) (sc (i + 2))).2 → va_P (dC, dI) xcl (xAll Z A (xmix N (ap_R_record M u))) H → va_D AA (xAll Z A (xmix N (ap_R_record M u))) → va_S AA s.heap H locs → lv_has ls 8 [(4, .int (nI i)), (3, .ref (A 32)), (2, .ref (A 20)), (1, .ref (A 0)), (0, .ref b)] → W p l e room_1 s m #[Value.ref b] below meth c H locs (cells + 1) (slots + 6) Q (F0 m 670 ls [])) : W p l e room_1 s m #[Value.ref b] below meth c H locs cells slots Q (F0 m 603 ls []) := by
  have hbA : ¬ AA b := hA0 b hbl
  have hts : ∀ w ∈ (Cond.initialized "CentrifugeUnitLaw" :: xw), w.before #[Value.ref b] s = true := fun w h => htt w (by rcases List.mem_cons.mp h with rfl | h; exact tw_0; exact h)
  have hP : va_P (dC, dI) xcl [(A 0, xc0 Z A M), (A 1, xc1 Z A M), (A 2, xc2 Z A M), (A 3, xc3 Z A M), (A 4, xc4 Z A M), (A 5, xc5 Z A M), (A 6, xc6 Z A M), (A 7, xc7 Z A M), (A 8, xc8 Z A M), (A 9, xc9 Z A M), (A 10, xc10 Z A M), (A 11, xc11 Z A M), (A 12, xc12 Z A M), (A 13, xc13 Z A M), (A 14, xc14 Z A M), (A 15, xc15 Z A M), (A 16, xc16 Z A M), (A 17, xc17 Z A M), (A 18, xc18 Z A M), (A 19, xc19 Z A M), (A 20, xc20 Z A M), (A 21, xc21 Z A M), (A 22, xc22 Z A M), (A 23, xc23 Z A M), (A 24, xc24 Z A M), (A 25, xc25 Z A M), (A 26, xc26 Z A M), (A 27, xc27 Z A M), (A 28, xc28 Z A M), (A 29, xc29 Z A M), (A 30, xc30 Z A M), (A 31, xc31 Z A M), (A 32, xc32 Z A M)] H := hP
  have hD : va_D AA [(A 0, xc0 Z A M), (A 1, xc1 Z A M), (A 2, xc2 Z A M), (A 3, xc3 Z A M), (A 4, xc4 Z A M), (A 5, xc5 Z A M), (A 6, xc6 Z A M), (A 7, xc7 Z A M), (A 8, xc8 Z A M), (A 9, xc9 Z A M), (A 10, xc10 Z A M), (A 11, xc11 Z A M), (A 12, xc12 Z A M), (A 13, xc13 Z A M), (A 14, xc14 Z A M), (A 15, xc15 Z A M), (A 16, xc16 Z A M), (A 17, xc17 Z A M), (A 18, xc18 Z A M), (A 19, xc19 Z A M), (A 20, xc20 Z A M), (A 21, xc21 Z A M), (A 22, xc22 Z A M), (A 23, xc23 Z A M), (A 24, xc24 Z A M), (A 25, xc25 Z A M), (A 26, xc26 Z A M), (A 27, xc27 Z A M), (A 28, xc28 Z A M), (A 29, xc29 Z A M), (A 30, xc30 Z A M), (A 31, xc31 Z A M), (A 32, xc32 Z A M)] := hD
  refine lv_aload_n hx hb d_L_law_603 rfl (lv_at hl 3 rfl) ?_
  refine xl_arg hx hb hX hbl hbA hS hL hl (p0 := 4) (p4 := 0) rfl rfl 1 (by omega) (by decide) d_L_law_604 d_L_law_605 d_L_law_607 d_L_law_608 d_L_law_609 ?_
  refine xl_arg hx hb hX hbl hbA hS hL hl (p0 := 4) (p4 := 0) rfl rfl 2 (by omega) (by decide) d_L_law_610 d_L_law_611 d_L_law_613 d_L_law_614 d_L_law_615 ?_
  refine lv_aload_n hx hb d_L_law_616 rfl (lv_at hl 1 rfl) ?_
  have hPc := hP.sub (ws' := [(A 0, xc0 Z A M), (A 1, xc1 Z A M), (A 2, xc2 Z A M), (A 3, xc3 Z A M), (A 4, xc4 Z A M), (A 5, xc5 Z A M), (A 6, xc6 Z A M), (A 7, xc7 Z A M), (A 8, xc8 Z A M), (A 9, xc9 Z A M), (A 10, xc10 Z A M), (A 11, xc11 Z A M), (A 12, xc12 Z A M), (A 13, xc13 Z A M), (A 14, xc14 Z A M), (A 15, xc15 Z A M), (A 16, xc16 Z A M), (A 17, xc17 Z A M), (A 18, xc18 Z A M), (A 19, xc19 Z A M), (A 32, xc32 Z A M)]) [0, 1, 2, 3, 4, 5, 6, 7, 8, 9, 10, 11, 12, 13, 14, 15, 16, 17, 18, 19, 32] rfl
  have hDc := hD.sub (ws' := [(A 0, xc0 Z A M), (A 1, xc1 Z A M), (A 2, xc2 Z A M), (A 3, xc3 Z A M), (A 4, xc4 Z A M), (A 5, xc5 Z A M), (A 6, xc6 Z A M), (A 7, xc7 Z A M), (A 8, xc8 Z A M), (A 9, xc9 Z A M), (A 10, xc10 Z A M), (A 11, xc11 Z A M), (A 12, xc12 Z A M), (A 13, xc13 Z A M), (A 14, xc14 Z A M), (A 15, xc15 Z A M), (A 16, xc16 Z A M), (A 17, xc17 Z A M), (A 18, xc18 Z A M), (A 19, xc19 Z A M), (A 32, xc32 Z A M)]) [0, 1, 2, 3, 4, 5, 6, 7, 8, 9, 10, 11, 12, 13, 14, 15, 16, 17, 18, 19, 32] (by decide) rfl
  refine xk_i (wc := [(A 0, xc0 Z A M), (A 1, xc1 Z A M), (A 2, xc2 Z A M), (A 3, xc3 Z A M), (A 4, xc4 Z A M), (A 5, xc5 Z A M), (A 6, xc6 Z A M), (A 7, xc7 Z A M), (A 8, xc8 Z A M), (A 9, xc9 Z A M), (A 10, xc10 Z A M), (A 11, xc11 Z A M), (A 12, xc12 Z A M), (A 13, xc13 Z A M), (A 14, xc14 Z A M), (A 15, xc15 Z A M), (A 16, xc16 Z A M), (A 17, xc17 Z A M), (A 18, xc18 Z A M), (A 19, xc19 Z A M), (A 32, xc32 Z A M)]) (wr := [(A 20, xc20 Z A M), (A 21, xc21 Z A M), (A 22, xc22 Z A M), (A 23, xc23 Z A M), (A 24, xc24 Z A M), (A 25, xc25 Z A M), (A 26, xc26 Z A M), (A 27, xc27 Z A M), (A 28, xc28 Z A M), (A 29, xc29 Z A M), (A 30, xc30 Z A M), (A 31, xc31 Z A M)]) (xt_runSW (n := 4) (As := [.ref (A 0), .int (sc (i + 1)), .int (sc (i + 2)), .ref (A 32)]) (rest := []) ⟨hx, hb, hml, hown, hts⟩ (c_L_record l htl dC dI Z A _ M (sc (i + 1)) (sc (i + 2))) List.mem_cons_self rfl rfl ⟨Nat.le_of_ble_eq_true rfl, Nat.le_of_ble_eq_true rfl⟩ (xw_call _ tw_742) (htt _ tw_740) (htt _ tw_741) (htt _ tw_0) (by decide) (by decide +kernel) ⟨xBs_blind, fun U hU hW => ⟨rfl, xBs_in hPc hK hDc hq hs hS hA0 U hU hW⟩⟩ rfl rfl hl.1 rfl (lv_room (Nat.le_of_ble_eq_true rfl)) d_L_law_617 ⟨hcl, hsl⟩) hP hD hS hA [0, 1, 2, 3, 4, 5, 6, 7, 8, 9, 10, 11, 12, 13, 14, 15, 16, 17, 18, 19, 32] [20, 21, 22, 23, 24, 25, 26, 27, 28, 29, 30, 31] rfl rfl (by decide) (by decide) (fun r N H locs hG hP hD hS => ?_)
  have hP : va_P (dC, dI) xcl [(A 20, xc20 Z A M), (A 21, xc21 Z A M), (A 22, xc22 Z A M), (A 23, xc23 Z A M), (A 24, xc24 Z A M), (A 25, xc25 Z A M), (A 26, xc26 Z A M), (A 27, xc27 Z A M), (A 28, xc28 Z A M), (A 29, xc29 Z A M), (A 30, xc30 Z A M), (A 31, xc31 Z A M), (A 0, xc0 Z A N), (A 1, xc1 Z A N), (A 2, xc2 Z A N), (A 3, xc3 Z A N), (A 4, xc4 Z A N), (A 5, xc5 Z A N), (A 6, xc6 Z A N), (A 7, xc7 Z A N), (A 8, xc8 Z A N), (A 9, xc9 Z A N), (A 10, xc10 Z A N), (A 11, xc11 Z A N), (A 12, xc12 Z A N), (A 13, xc13 Z A N), (A 14, xc14 Z A N), (A 15, xc15 Z A N), (A 16, xc16 Z A N), (A 17, xc17 Z A N), (A 18, xc18 Z A N), (A 19, xc19 Z A N), (A 32, xc32 Z A N)] H := hP
  have hD : va_D AA [(A 20, xc20 Z A M), (A 21, xc21 Z A M), (A 22, xc22 Z A M), (A 23, xc23 Z A M), (A 24, xc24 Z A M), (A 25, xc25 Z A M), (A 26, xc26 Z A M), (A 27, xc27 Z A M), (A 28, xc28 Z A M), (A 29, xc29 Z A M), (A 30, xc30 Z A M), (A 31, xc31 Z A M), (A 0, xc0 Z A N), (A 1, xc1 Z A N), (A 2, xc2 Z A N), (A 3, xc3 Z A N), (A 4, xc4 Z A N), (A 5, xc5 Z A N), (A 6, xc6 Z A N), (A 7, xc7 Z A N), (A 8, xc8 Z A N), (A 9, xc9 Z A N), (A 10, xc10 Z A N), (A 11, xc11 Z A N), (A 12, xc12 Z A N), (A 13, xc13 Z A N), (A 14, xc14 Z A N), (A 15, xc15 Z A N), (A 16, xc16 Z A N), (A 17, xc17 Z A N), (A 18, xc18 Z A N), (A 19, xc19 Z A N), (A 32, xc32 Z A N)] := hD
  refine lv_istore (lv' := [(5, .int r), (4, .int (nI i)), (3, .ref (A 32)), (2, .ref (A 20)), (1, .ref (A 0)), (0, .ref b)]) hx hb d_L_law_620 hl (by decide) rfl (fun ls hl => ?_)
  refine lv_aload_n hx hb d_L_law_622 rfl (lv_at hl 3 rfl) ?_
  refine xl_arg hx hb hX hbl hbA hS hL hl (p0 := 5) (p4 := 1) rfl rfl 1 (by omega) (by decide) d_L_law_623 d_L_law_624 d_L_law_626 d_L_law_627 d_L_law_628 ?_
  refine xl_arg hx hb hX hbl hbA hS hL hl (p0 := 5) (p4 := 1) rfl rfl 2 (by omega) (by decide) d_L_law_629 d_L_law_630 d_L_law_632 d_L_law_633 d_L_law_634 ?_
  have hPc := hP.sub (ws' := [(A 20, xc20 Z A M), (A 29, xc29 Z A M), (A 30, xc30 Z A M), (A 31, xc31 Z A M)]) [0, 9, 10, 11] rfl
  have hDc := hD.sub (ws' := [(A 20, xc20 Z A M), (A 29, xc29 Z A M), (A 30, xc30 Z A M), (A 31, xc31 Z A M)]) [0, 9, 10, 11] (by decide) rfl
  refine xk_l (wc := [(A 20, xc20 Z A M), (A 29, xc29 Z A M), (A 30, xc30 Z A M), (A 31, xc31 Z A M)]) (wr := [(A 21, xc21 Z A M), (A 22, xc22 Z A M), (A 23, xc23 Z A M), (A 24, xc24 Z A M), (A 25, xc25 Z A M), (A 26, xc26 Z A M), (A 27, xc27 Z A M), (A 28, xc28 Z A M), (A 0, xc0 Z A N), (A 1, xc1 Z A N), (A 2, xc2 Z A N), (A 3, xc3 Z A N), (A 4, xc4 Z A N), (A 5, xc5 Z A N), (A 6, xc6 Z A N), (A 7, xc7 Z A N), (A 8, xc8 Z A N), (A 9, xc9 Z A N), (A 10, xc10 Z A N), (A 11, xc11 Z A N), (A 12, xc12 Z A N), (A 13, xc13 Z A N), (A 14, xc14 Z A N), (A 15, xc15 Z A N), (A 16, xc16 Z A N), (A 17, xc17 Z A N), (A 18, xc18 Z A N), (A 19, xc19 Z A N), (A 32, xc32 Z A N)]) (va_runV (As := [.int (sc (i + 1)), .int (sc (i + 2))]) (rest := []) ⟨hx, hb, hml, hown, hts⟩ (c_R_record l dC dI Z A _ M (sc (i + 1)) (sc (i + 2))) (cwV 2 hts (xw_V _ tw_1062 tw_1063 tw_1064 tw_12 tw_1065) rfl rfl rfl (by decide +kernel) ⟨Nat.le_of_ble_eq_true rfl, Nat.le_of_ble_eq_true rfl⟩) ⟨xB_blind, va_recv (q0 := 0) (ci := 10) hK hP rfl rfl, fun U hU hW => ⟨rfl, xB_at hPc hK hDc hq U hU hW⟩⟩ rfl rfl hl.1 rfl (lv_room (Nat.le_of_ble_eq_true rfl)) d_L_law_635 ⟨Nat.le_trans (Nat.le_refl _) hcl, Nat.le_trans (Nat.le_refl _) hsl⟩) hP hD hS hA [0, 9, 10, 11] [1, 2, 3, 4, 5, 6, 7, 8, 12, 13, 14, 15, 16, 17, 18, 19, 20, 21, 22, 23, 24, 25, 26, 27, 28, 29, 30, 31, 32] rfl rfl (by decide) (by decide) (fun r2 u H locs hu hP hD hS => ?_)
  have hP : va_P (dC, dI) xcl [(A 21, xc21 Z A (ap_R_record M u)), (A 22, xc22 Z A (ap_R_record M u)), (A 23, xc23 Z A (ap_R_record M u)), (A 24, xc24 Z A (ap_R_record M u)), (A 25, xc25 Z A (ap_R_record M u)), (A 26, xc26 Z A (ap_R_record M u)), (A 27, xc27 Z A (ap_R_record M u)), (A 28, xc28 Z A (ap_R_record M u)), (A 0, xc0 Z A N), (A 1, xc1 Z A N), (A 2, xc2 Z A N), (A 3, xc3 Z A N), (A 4, xc4 Z A N), (A 5, xc5 Z A N), (A 6, xc6 Z A N), (A 7, xc7 Z A N), (A 8, xc8 Z A N), (A 9, xc9 Z A N), (A 10, xc10 Z A N), (A 11, xc11 Z A N), (A 12, xc12 Z A N), (A 13, xc13 Z A N), (A 14, xc14 Z A N), (A 15, xc15 Z A N), (A 16, xc16 Z A N), (A 17, xc17 Z A N), (A 18, xc18 Z A N), (A 19, xc19 Z A N), (A 32, xc32 Z A N), (A 20, xc20 Z A (ap_R_record M u)), (A 29, xc29 Z A (ap_R_record M u)), (A 30, xc30 Z A (ap_R_record M u)), (A 31, xc31 Z A (ap_R_record M u))] H := hP
  have hD : va_D AA [(A 21, xc21 Z A (ap_R_record M u)), (A 22, xc22 Z A (ap_R_record M u)), (A 23, xc23 Z A (ap_R_record M u)), (A 24, xc24 Z A (ap_R_record M u)), (A 25, xc25 Z A (ap_R_record M u)), (A 26, xc26 Z A (ap_R_record M u)), (A 27, xc27 Z A (ap_R_record M u)), (A 28, xc28 Z A (ap_R_record M u)), (A 0, xc0 Z A N), (A 1, xc1 Z A N), (A 2, xc2 Z A N), (A 3, xc3 Z A N), (A 4, xc4 Z A N), (A 5, xc5 Z A N), (A 6, xc6 Z A N), (A 7, xc7 Z A N), (A 8, xc8 Z A N), (A 9, xc9 Z A N), (A 10, xc10 Z A N), (A 11, xc11 Z A N), (A 12, xc12 Z A N), (A 13, xc13 Z A N), (A 14, xc14 Z A N), (A 15, xc15 Z A N), (A 16, xc16 Z A N), (A 17, xc17 Z A N), (A 18, xc18 Z A N), (A 19, xc19 Z A N), (A 32, xc32 Z A N), (A 20, xc20 Z A (ap_R_record M u)), (A 29, xc29 Z A (ap_R_record M u)), (A 30, xc30 Z A (ap_R_record M u)), (A 31, xc31 Z A (ap_R_record M u))] := hD
  refine lv_lstore (lv' := [(6, .long r2), (5, .int r), (4, .int (nI i)), (3, .ref (A 32)), (2, .ref (A 20)), (1, .ref (A 0)), (0, .ref b)]) hx hb d_L_law_638 hl (by decide) rfl (fun ls hl => ?_)
  refine lv_aload_n hx hb d_L_law_640 rfl (lv_at hl 4 rfl) ?_
  have hPc := hP.sub (ws' := [(A 20, xc20 Z A (ap_R_record M u))]) [29] rfl
  have hDc := hD.sub (ws' := [(A 20, xc20 Z A (ap_R_record M u))]) [29] (by decide) rfl
  refine xk_p (va_runV (As := []) (rest := []) ⟨hx, hb, hml, hown, hts⟩ (c_R_thrown l dC dI Z A _ (ap_R_record M u)) (cwV 0 hts (xw_V _ tw_916 tw_917 tw_918 tw_12 tw_919) rfl rfl rfl (by decide +kernel) ⟨Nat.le_of_ble_eq_true rfl, Nat.le_of_ble_eq_true rfl⟩) ⟨xB_blind, va_recv (q0 := 29) (ci := 10) hK hP rfl rfl, fun U hU hW => ⟨rfl, xB_at hPc hK hDc hq U hU hW⟩⟩ rfl rfl hl.1 rfl (lv_room (Nat.le_of_ble_eq_true rfl)) d_L_law_641 ⟨Nat.le_trans (Nat.le_refl _) hcl, Nat.le_trans (Nat.le_refl _) hsl⟩) ?_
  refine lv_iload hx hb d_L_law_644 (lv_at hl 1 rfl) ?_
  have ht : F_R_thrown (ap_R_record M u) = r := by
    have e2 : u = (F_R_record M (sc (i + 1)) (sc (i + 2))).2 := congrArg Prod.snd hu
    rw [e2]
    exact heq.trans (congrArg Prod.fst hG).symm
  refine lv_icmp_eq (tgt := 651) hx hb d_L_law_646 rfl (fun _ => ?_) (fun h => absurd ht h)
  refine lv_iload hx hb d_L_law_651 (lv_at hl 1 rfl) ?_
  refine lv_if_ne (tgt := 667) hx hb d_L_law_653 rfl (fun _ => ?_) (fun h0 => ?_)
  · refine lv_goto (tgt := 670) hx hb d_L_law_667 rfl ?_
    exact k N u H locs ls (congrArg Prod.snd hG) (congrArg Prod.snd hu) (show va_P (dC, dI) xcl (xAll Z A (xmix N (ap_R_record M u))) H from hP.sub [8, 9, 10, 11, 12, 13, 14, 15, 16, 17, 18, 19, 20, 21, 22, 23, 24, 25, 26, 27, 29, 0, 1, 2, 3, 4, 5, 6, 7, 30, 31, 32, 28] rfl) (show va_D AA (xAll Z A (xmix N (ap_R_record M u))) from hD.sub [8, 9, 10, 11, 12, 13, 14, 15, 16, 17, 18, 19, 20, 21, 22, 23, 24, 25, 26, 27, 29, 0, 1, 2, 3, 4, 5, 6, 7, 30, 31, 32, 28] (by decide) rfl) hS (lv_sub hl [2, 3, 4, 5, 6] rfl)
  · refine lv_aload_n hx hb d_L_law_656 rfl (lv_at hl 3 rfl) ?_
    refine lv_iconst (v := 0) hx hb d_L_law_657 (by decide) ?_
    refine va_lald (D := (dC, dI)) hx hb hK hP 28 1 rfl rfl (by unfold vp_in; decide) d_L_law_658 ?_
    refine W.eq (g2 := F0 m 659 ls [.long ((N.2.2.2 32) 0)]) rfl ?_
    refine lv_lload hx hb d_L_law_659 (lv_at hl 0 rfl) ?_
    refine W.lcmp hx hb d_L_law_661 ?_
    have hv : (N.2.2.2 32) 0 = r2 := by
      have e1 : N = (G_L_record M (sc (i + 1)) (sc (i + 2))).2 := congrArg Prod.snd hG
      have e2 : r2 = (F_R_record M (sc (i + 1)) (sc (i + 2))).1 := congrArg Prod.fst hu
      rw [e1, e2]
      exact heq2 ((congrArg Prod.fst hG).symm.trans h0)
    refine lv_if_eq (tgt := 667) hx hb d_L_law_662 rfl (fun _ => ?_) (fun h => absurd ((lg_cmp_eq _ _).mpr hv) h)
    refine lv_goto (tgt := 670) hx hb d_L_law_667 rfl ?_
    exact k N u H locs ls (congrArg Prod.snd hG) (congrArg Prod.snd hu) (show va_P (dC, dI) xcl (xAll Z A (xmix N (ap_R_record M u))) H from hP.sub [8, 9, 10, 11, 12, 13, 14, 15, 16, 17, 18, 19, 20, 21, 22, 23, 24, 25, 26, 27, 29, 0, 1, 2, 3, 4, 5, 6, 7, 30, 31, 32, 28] rfl) (show va_D AA (xAll Z A (xmix N (ap_R_record M u))) from hD.sub [8, 9, 10, 11, 12, 13, 14, 15, 16, 17, 18, 19, 20, 21, 22, 23, 24, 25, 26, 27, 29, 0, 1, 2, 3, 4, 5, 6, 7, 30, 31, 32, 28] (by decide) rfl) hS (lv_sub hl [2, 3, 4, 5, 6] rfl)
