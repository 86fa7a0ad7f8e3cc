set_option maxRecDepth 20000 in
theorem tw_732 : Cond.methodLink "CentrifugeUnitLaw" 116 ⟨"CentrifugeUnitLaw", "look", "(LCentrifugeUnit;I[J)I"⟩ ∈ xw := xw_of (List.mem_append_right _ (List.mem_of_getElem? (i := 732) (by decide +kernel))) rfl
set_option maxRecDepth 20000 in
theorem tw_733 : Cond.static ⟨"CentrifugeUnitLaw", "look", "(LCentrifugeUnit;I[J)I"⟩ ∈ xw := xw_of (List.mem_append_right _ (List.mem_of_getElem? (i := 733) (by decide +kernel))) rfl
set_option maxRecDepth 20000 in
theorem tw_734 : Cond.codeWith ⟨"CentrifugeUnitLaw", "look", "(LCentrifugeUnit;I[J)I"⟩ method_14_code 4 (Option.some Jvm.ClassFile.FieldType.int) [(0, 9, 12, 13)] ∈ xw := xw_of (List.mem_append_right _ (List.mem_of_getElem? (i := 734) (by decide +kernel))) rfl
set_option maxRecDepth 20000 in
theorem tw_740 : Cond.methodLink "CentrifugeUnitLaw" 132 ⟨"CentrifugeUnitLaw", "record", "(LCentrifugeUnit;II[J)I"⟩ ∈ xw := xw_of (List.mem_append_right _ (List.mem_of_getElem? (i := 740) (by decide +kernel))) rfl
set_option maxRecDepth 20000 in
theorem tw_741 : Cond.static ⟨"CentrifugeUnitLaw", "record", "(LCentrifugeUnit;II[J)I"⟩ ∈ xw := xw_of (List.mem_append_right _ (List.mem_of_getElem? (i := 741) (by decide +kernel))) rfl
set_option maxRecDepth 20000 in
theorem tw_742 : Cond.codeWith ⟨"CentrifugeUnitLaw", "record", "(LCentrifugeUnit;II[J)I"⟩ method_15_code 5 (Option.some Jvm.ClassFile.FieldType.int) [(0, 9, 12, 13), (0, 9, 16, 59)] ∈ xw := xw_of (List.mem_append_right _ (List.mem_of_getElem? (i := 742) (by decide +kernel))) rfl
set_option maxRecDepth 20000 in
theorem tw_1045 : Cond.methodLink "CentrifugeUnitLaw" 118 ⟨"CentrifugeUnitModel", "look", "(I)I"⟩ ∈ xw := xw_of (List.mem_append_right _ (List.mem_of_getElem? (i := 1045) (by decide +kernel))) rfl
set_option maxRecDepth 20000 in
theorem tw_1046 : Cond.instanceMethod ⟨"CentrifugeUnitModel", "look", "(I)I"⟩ ∈ xw := xw_of (List.mem_append_right _ (List.mem_of_getElem? (i := 1046) (by decide +kernel))) rfl
set_option maxRecDepth 20000 in
theorem tw_1047 : Cond.selects "CentrifugeUnitModel" ⟨"CentrifugeUnitModel", "look", "(I)I"⟩ ⟨"CentrifugeUnitModel", "look", "(I)I"⟩ ∈ xw := xw_of (List.mem_append_right _ (List.mem_of_getElem? (i := 1047) (by decide +kernel))) rfl
set_option maxRecDepth 20000 in
theorem tw_1048 : Cond.code ⟨"CentrifugeUnitModel", "look", "(I)I"⟩ prog_12_method_28_code 2 (Option.some Jvm.ClassFile.FieldType.int) ∈ xw := xw_of (List.mem_append_right _ (List.mem_of_getElem? (i := 1048) (by decide +kernel))) rfl
set_option maxRecDepth 20000 in
theorem tw_1062 : Cond.methodLink "CentrifugeUnitLaw" 135 ⟨"CentrifugeUnitModel", "record", "(II)J"⟩ ∈ xw := xw_of (List.mem_append_right _ (List.mem_of_getElem? (i := 1062) (by decide +kernel))) rfl
set_option maxRecDepth 20000 in
theorem tw_1063 : Cond.instanceMethod ⟨"CentrifugeUnitModel", "record", "(II)J"⟩ ∈ xw := xw_of (List.mem_append_right _ (List.mem_of_getElem? (i := 1063) (by decide +kernel))) rfl
set_option maxRecDepth 20000 in
theorem tw_1064 : Cond.selects "CentrifugeUnitModel" ⟨"CentrifugeUnitModel", "record", "(II)J"⟩ ⟨"CentrifugeUnitModel", "record", "(II)J"⟩ ∈ xw := xw_of (List.mem_append_right _ (List.mem_of_getElem? (i := 1064) (by decide +kernel))) rfl
set_option maxRecDepth 20000 in
theorem tw_1065 : Cond.code ⟨"CentrifugeUnitModel", "record", "(II)J"⟩ prog_12_method_32_code 5 (Option.some Jvm.ClassFile.FieldType.long) ∈ xw := xw_of (List.mem_append_right _ (List.mem_of_getElem? (i := 1065) (by decide +kernel))) rfl
theorem d_L_law_691 : decode code 691 = .ok (.aload_n 1, 1) := by decide +kernel
theorem d_L_law_692 : decode code 692 = .ok (.aload_n 0, 1) := by decide +kernel
theorem d_L_law_693 : decode code 693 = .ok (.iload 4, 2) := by decide +kernel
theorem d_L_law_695 : decode code 695 = .ok (.iconst 1, 1) := by decide +kernel
theorem d_L_law_696 : decode code 696 = .ok (.iadd, 1) := by decide +kernel
theorem d_L_law_697 : decode code 697 = .ok (.iaload, 1) := by decide +kernel
theorem d_L_law_698 : decode code 698 = .ok (.aload_n 3, 1) := by decide +kernel
theorem d_L_law_699 : decode code 699 = .ok (.invokestatic 116, 3) := by decide +kernel
theorem d_L_law_702 : decode code 702 = .ok (.istore 5, 2) := by decide +kernel
theorem d_L_law_704 : decode code 704 = .ok (.aload_n 2, 1) := by decide +kernel
theorem d_L_law_705 : decode code 705 = .ok (.aload_n 0, 1) := by decide +kernel
theorem d_L_law_706 : decode code 706 = .ok (.iload 4, 2) := by decide +kernel
theorem d_L_law_708 : decode code 708 = .ok (.iconst 1, 1) := by decide +kernel
theorem d_L_law_709 : decode code 709 = .ok (.iadd, 1) := by decide +kernel
theorem d_L_law_710 : decode code 710 = .ok (.iaload, 1) := by decide +kernel
theorem d_L_law_711 : decode code 711 = .ok (.invokevirtual 118, 3) := by decide +kernel
theorem d_L_law_714 : decode code 714 = .ok (.istore 6, 2) := by decide +kernel
theorem d_L_law_716 : decode code 716 = .ok (.aload_n 2, 1) := by decide +kernel
theorem d_L_law_717 : decode code 717 = .ok (.invokevirtual 71, 3) := by decide +kernel
theorem d_L_law_720 : decode code 720 = .ok (.iload 5, 2) := by decide +kernel
theorem d_L_law_722 : decode code 722 = .ok (.if_icmp .eq 5, 3) := by decide +kernel
theorem d_L_law_727 : decode code 727 = .ok (.iload 5, 2) := by decide +kernel
theorem d_L_law_729 : decode code 729 = .ok (.ifCond .ne 15, 3) := by decide +kernel
theorem d_L_law_732 : decode code 732 = .ok (.aload_n 3, 1) := by decide +kernel
theorem d_L_law_733 : decode code 733 = .ok (.iconst 0, 1) := by decide +kernel
theorem d_L_law_734 : decode code 734 = .ok (.laload, 1) := by decide +kernel
theorem d_L_law_735 : decode code 735 = .ok (.iload 6, 2) := by decide +kernel
theorem d_L_law_737 : decode code 737 = .ok (.i2l, 1) := by decide +kernel
theorem d_L_law_738 : decode code 738 = .ok (.lcmp, 1) := by decide +kernel
theorem d_L_law_739 : decode code 739 = .ok (.ifCond .eq 5, 3) := by decide +kernel
theorem d_L_law_744 : decode code 744 = .ok (.goto 112, 3) := by decide +kernel
set_option maxHeartbeats 4000000 in
set_option maxRecDepth 100000 in
theorem law_c12 (l : Launch) (htl : l.stackTraces = false) (dC : Nat → ClassId) (dI : Nat → Nat → Nat) (Z : Nat → ClassId) (A : Nat → Nat) (M : XM) {p : Program} {e : Env} {s : State} {m : MethodId} {below : List Frame} {meth : Method} {c : Code} {b L i : Nat} {sc : Nat → Int32} {AA : Nat → Prop} {Q : State → Prop} {H : Heap} {locs : List Loc} {ls : Array Slot} {cells slots : Nat}
    (hx : p.tables.exec = Jvm.exec) (hb : c.code = code) (hml : c.maxLocals = 8) (hown : s.vm.findClass "CentrifugeUnitLaw" = some m.cls) (htt : ∀ w ∈ xw, w.before #[Value.ref b] s = true) (hq : xq s) (hs : xs s) (hK : va_K (dC, dI) xcl (xty Z) s) (hA : ∀ q, s.heap.size ≤ q → AA q) (hA0 : ∀ q : Nat, q < s.heap.size → ¬ AA q) (hX : va_X b L sc s s.heap) (hbl : b < s.heap.size) (hL : L < 2 ^ 31) (hi : i + 6 ≤ L)
    (hP : va_P (dC, dI) xcl (xAll Z A M) H) (hD : va_D AA (xAll Z A M)) (hS : va_S AA s.heap H locs) (hl : lv_has ls 8 [(4, .int (nI i)), (3, .ref (A 32)), (2, .ref (A 20)), (1, .ref (A 0)), (0, .ref b)]) (hcl : cells + 1 ≤ room_1.cells) (hsl : slots + 6 ≤ room_1.slots)
    (heq : F_R_thrown (ap_R_look M (F_R_look M (sc (i + 1))).2) = (G_L_look M (sc (i + 1))).1) (heq2 : (G_L_look M (sc (i + 1))).1 = 0 → ((G_L_look M (sc (i + 1))).2.2.2.2 32) 0 = (F_R_look M (sc (i + 1))).1.toInt64)
    (k : ∀ (N : XM) (u : Int32) (H : Heap) (locs : List Loc) (ls : Array Slot), N = (G_L_look M (sc (i + 1))).2 → u = (F_R_look M (sc (i + 1))).2 → va_P (dC, dI) xcl (xAll Z A (xmix N (ap_R_look M u))) H → va_D AA (xAll Z A (xmix N (ap_R_look M u))) → va_S AA s.heap H locs → lv_has ls 8 [(4, .int (nI i)), (3, .ref (A 32)), (2, .ref (A 20)), (1, .ref (A 0)), (0, .ref b)] → W p l e room_1 s m #[Value.ref b] below meth c H locs (cells + 1) (slots + 6) Q (F0 m 856 ls [])) : W p l e room_1 s m #[Value.ref b] below meth c H locs cells slots Q (F0 m 691 ls []) := by
  have hbA : ¬ AA b := hA0 b hbl
  have hts : ∀ w ∈ (Cond.initialized "CentrifugeUnitLaw" :: xw), w.before #[Value.ref b] s = true := fun w h => htt w (by rcases List.mem_cons.mp h with rfl | h; exact tw_0; exact h)
  have hP : va_P (dC, dI) xcl [(A 0, xc0 Z A M), (A 1, xc1 Z A M), (A 2, xc2 Z A M), (A 3, xc3 Z A M), (A 4, xc4 Z A M), (A 5, xc5 Z A M), (A 6, xc6 Z A M), (A 7, xc7 Z A M), (A 8, xc8 Z A M), (A 9, xc9 Z A M), (A 10, xc10 Z A M), (A 11, xc11 Z A M), (A 12, xc12 Z A M), (A 13, xc13 Z A M), (A 14, xc14 Z A M), (A 15, xc15 Z A M), (A 16, xc16 Z A M), (A 17, xc17 Z A M), (A 18, xc18 Z A M), (A 19, xc19 Z A M), (A 20, xc20 Z A M), (A 21, xc21 Z A M), (A 22, xc22 Z A M), (A 23, xc23 Z A M), (A 24, xc24 Z A M), (A 25, xc25 Z A M), (A 26, xc26 Z A M), (A 27, xc27 Z A M), (A 28, xc28 Z A M), (A 29, xc29 Z A M), (A 30, xc30 Z A M), (A 31, xc31 Z A M), (A 32, xc32 Z A M)] H := hP
  have hD : va_D AA [(A 0, xc0 Z A M), (A 1, xc1 Z A M), (A 2, xc2 Z A M), (A 3, xc3 Z A M), (A 4, xc4 Z A M), (A 5, xc5 Z A M), (A 6, xc6 Z A M), (A 7, xc7 Z A M), (A 8, xc8 Z A M), (A 9, xc9 Z A M), (A 10, xc10 Z A M), (A 11, xc11 Z A M), (A 12, xc12 Z A M), (A 13, xc13 Z A M), (A 14, xc14 Z A M), (A 15, xc15 Z A M), (A 16, xc16 Z A M), (A 17, xc17 Z A M), (A 18, xc18 Z A M), (A 19, xc19 Z A M), (A 20, xc20 Z A M), (A 21, xc21 Z A M), (A 22, xc22 Z A M), (A 23, xc23 Z A M), (A 24, xc24 Z A M), (A 25, xc25 Z A M), (A 26, xc26 Z A M), (A 27, xc27 Z A M), (A 28, xc28 Z A M), (A 29, xc29 Z A M), (A 30, xc30 Z A M), (A 31, xc31 Z A M), (A 32, xc32 Z A M)] := hD
  refine lv_aload_n hx hb d_L_law_691 rfl (lv_at hl 3 rfl) ?_
  refine xl_arg hx hb hX hbl hbA hS hL hl (p0 := 4) (p4 := 0) rfl rfl 1 (by omega) (by decide) d_L_law_692 d_L_law_693 d_L_law_695 d_L_law_696 d_L_law_697 ?_
  refine lv_aload_n hx hb d_L_law_698 rfl (lv_at hl 1 rfl) ?_
  have hPc := hP.sub (ws' := [(A 0, xc0 Z A M), (A 1, xc1 Z A M), (A 2, xc2 Z A M), (A 3, xc3 Z A M), (A 4, xc4 Z A M), (A 5, xc5 Z A M), (A 6, xc6 Z A M), (A 7, xc7 Z A M), (A 8, xc8 Z A M), (A 9, xc9 Z A M), (A 10, xc10 Z A M), (A 11, xc11 Z A M), (A 12, xc12 Z A M), (A 13, xc13 Z A M), (A 14, xc14 Z A M), (A 15, xc15 Z A M), (A 16, xc16 Z A M), (A 17, xc17 Z A M), (A 18, xc18 Z A M), (A 19, xc19 Z A M), (A 32, xc32 Z A M)]) [0, 1, 2, 3, 4, 5, 6, 7, 8, 9, 10, 11, 12, 13, 14, 15, 16, 17, 18, 19, 32] rfl
  have hDc := hD.sub (ws' := [(A 0, xc0 Z A M), (A 1, xc1 Z A M), (A 2, xc2 Z A M), (A 3, xc3 Z A M), (A 4, xc4 Z A M), (A 5, xc5 Z A M), (A 6, xc6 Z A M), (A 7, xc7 Z A M), (A 8, xc8 Z A M), (A 9, xc9 Z A M), (A 10, xc10 Z A M), (A 11, xc11 Z A M), (A 12, xc12 Z A M), (A 13, xc13 Z A M), (A 14, xc14 Z A M), (A 15, xc15 Z A M), (A 16, xc16 Z A M), (A 17, xc17 Z A M), (A 18, xc18 Z A M), (A 19, xc19 Z A M), (A 32, xc32 Z A M)]) [0, 1, 2, 3, 4, 5, 6, 7, 8, 9, 10, 11, 12, 13, 14, 15, 16, 17, 18, 19, 32] (by decide) rfl
  refine xk_i (wc := [(A 0, xc0 Z A M), (A 1, xc1 Z A M), (A 2, xc2 Z A M), (A 3, xc3 Z A M), (A 4, xc4 Z A M), (A 5, xc5 Z A M), (A 6, xc6 Z A M), (A 7, xc7 Z A M), (A 8, xc8 Z A M), (A 9, xc9 Z A M), (A 10, xc10 Z A M), (A 11, xc11 Z A M), (A 12, xc12 Z A M), (A 13, xc13 Z A M), (A 14, xc14 Z A M), (A 15, xc15 Z A M), (A 16, xc16 Z A M), (A 17, xc17 Z A M), (A 18, xc18 Z A M), (A 19, xc19 Z A M), (A 32, xc32 Z A M)]) (wr := [(A 20, xc20 Z A M), (A 21, xc21 Z A M), (A 22, xc22 Z A M), (A 23, xc23 Z A M), (A 24, xc24 Z A M), (A 25, xc25 Z A M), (A 26, xc26 Z A M), (A 27, xc27 Z A M), (A 28, xc28 Z A M), (A 29, xc29 Z A M), (A 30, xc30 Z A M), (A 31, xc31 Z A M)]) (xt_runSW (n := 3) (As := [.ref (A 0), .int (sc (i + 1)), .ref (A 32)]) (rest := []) ⟨hx, hb, hml, hown, hts⟩ (c_L_look l htl dC dI Z A _ M (sc (i + 1))) List.mem_cons_self rfl rfl ⟨Nat.le_of_ble_eq_true rfl, Nat.le_of_ble_eq_true rfl⟩ (xw_call _ tw_734) (htt _ tw_732) (htt _ tw_733) (htt _ tw_0) (by decide) (by decide +kernel) ⟨xBs_blind, fun U hU hW => ⟨rfl, xBs_in hPc hK hDc hq hs hS hA0 U hU hW⟩⟩ rfl rfl hl.1 rfl (lv_room (Nat.le_of_ble_eq_true rfl)) d_L_law_699 ⟨hcl, hsl⟩) hP hD hS hA [0, 1, 2, 3, 4, 5, 6, 7, 8, 9, 10, 11, 12, 13, 14, 15, 16, 17, 18, 19, 32] [20, 21, 22, 23, 24, 25, 26, 27, 28, 29, 30, 31] rfl rfl (by decide) (by decide) (fun r N H locs hG hP hD hS => ?_)
  have hP : va_P (dC, dI) xcl [(A 20, xc20 Z A M), (A 21, xc21 Z A M), (A 22, xc22 Z A M), (A 23, xc23 Z A M), (A 24, xc24 Z A M), (A 25, xc25 Z A M), (A 26, xc26 Z A M), (A 27, xc27 Z A M), (A 28, xc28 Z A M), (A 29, xc29 Z A M), (A 30, xc30 Z A M), (A 31, xc31 Z A M), (A 0, xc0 Z A N), (A 1, xc1 Z A N), (A 2, xc2 Z A N), (A 3, xc3 Z A N), (A 4, xc4 Z A N), (A 5, xc5 Z A N), (A 6, xc6 Z A N), (A 7, xc7 Z A N), (A 8, xc8 Z A N), (A 9, xc9 Z A N), (A 10, xc10 Z A N), (A 11, xc11 Z A N), (A 12, xc12 Z A N), (A 13, xc13 Z A N), (A 14, xc14 Z A N), (A 15, xc15 Z A N), (A 16, xc16 Z A N), (A 17, xc17 Z A N), (A 18, xc18 Z A N), (A 19, xc19 Z A N), (A 32, xc32 Z A N)] H := hP
  have hD : va_D AA [(A 20, xc20 Z A M), (A 21, xc21 Z A M), (A 22, xc22 Z A M), (A 23, xc23 Z A M), (A 24, xc24 Z A M), (A 25, xc25 Z A M), (A 26, xc26 Z A M), (A 27, xc27 Z A M), (A 28, xc28 Z A M), (A 29, xc29 Z A M), (A 30, xc30 Z A M), (A 31, xc31 Z A M), (A 0, xc0 Z A N), (A 1, xc1 Z A N), (A 2, xc2 Z A N), (A 3, xc3 Z A N), (A 4, xc4 Z A N), (A 5, xc5 Z A N), (A 6, xc6 Z A N), (A 7, xc7 Z A N), (A 8, xc8 Z A N), (A 9, xc9 Z A N), (A 10, xc10 Z A N), (A 11, xc11 Z A N), (A 12, xc12 Z A N), (A 13, xc13 Z A N), (A 14, xc14 Z A N), (A 15, xc15 Z A N), (A 16, xc16 Z A N), (A 17, xc17 Z A N), (A 18, xc18 Z A N), (A 19, xc19 Z A N), (A 32, xc32 Z A N)] := hD
  refine lv_istore (lv' := [(5, .int r), (4, .int (nI i)), (3, .ref (A 32)), (2, .ref (A 20)), (1, .ref (A 0)), (0, .ref b)]) hx hb d_L_law_702 hl (by decide) rfl (fun ls hl => ?_)
  refine lv_aload_n hx hb d_L_law_704 rfl (lv_at hl 3 rfl) ?_
  refine xl_arg hx hb hX hbl hbA hS hL hl (p0 := 5) (p4 := 1) rfl rfl 1 (by omega) (by decide) d_L_law_705 d_L_law_706 d_L_law_708 d_L_law_709 d_L_law_710 ?_
  have hPc := hP.sub (ws' := [(A 20, xc20 Z A M)]) [0] rfl
  have hDc := hD.sub (ws' := [(A 20, xc20 Z A M)]) [0] (by decide) rfl
  refine xk_i (wc := [(A 20, xc20 Z A M)]) (wr := [(A 21, xc21 Z A M), (A 22, xc22 Z A M), (A 23, xc23 Z A M), (A 24, xc24 Z A M), (A 25, xc25 Z A M), (A 26, xc26 Z A M), (A 27, xc27 Z A M), (A 28, xc28 Z A M), (A 29, xc29 Z A M), (A 30, xc30 Z A M), (A 31, xc31 Z A M), (A 0, xc0 Z A N), (A 1, xc1 Z A N), (A 2, xc2 Z A N), (A 3, xc3 Z A N), (A 4, xc4 Z A N), (A 5, xc5 Z A N), (A 6, xc6 Z A N), (A 7, xc7 Z A N), (A 8, xc8 Z A N), (A 9, xc9 Z A N), (A 10, xc10 Z A N), (A 11, xc11 Z A N), (A 12, xc12 Z A N), (A 13, xc13 Z A N), (A 14, xc14 Z A N), (A 15, xc15 Z A N), (A 16, xc16 Z A N), (A 17, xc17 Z A N), (A 18, xc18 Z A N), (A 19, xc19 Z A N), (A 32, xc32 Z A N)]) (va_runV (As := [.int (sc (i + 1))]) (rest := []) ⟨hx, hb, hml, hown, hts⟩ (c_R_look l dC dI Z A _ M (sc (i + 1))) (cwV 1 hts (xw_V _ tw_1045 tw_1046 tw_1047 tw_12 tw_1048) rfl rfl rfl (by decide +kernel) ⟨Nat.le_of_ble_eq_true rfl, Nat.le_of_ble_eq_true rfl⟩) ⟨xB_blind, va_recv (q0 := 0) (ci := 10) hK hP rfl rfl, fun U hU hW => ⟨rfl, xB_at hPc hK hDc hq U hU hW⟩⟩ rfl rfl hl.1 rfl (lv_room (Nat.le_of_ble_eq_true rfl)) d_L_law_711 ⟨Nat.le_trans (Nat.le_refl _) hcl, Nat.le_trans (Nat.le_refl _) hsl⟩) hP hD hS hA [0] [1, 2, 3, 4, 5, 6, 7, 8, 9, 10, 11, 12, 13, 14, 15, 16, 17, 18, 19, 20, 21, 22, 23, 24, 25, 26, 27, 28, 29, 30, 31, 32] rfl rfl (by decide) (by decide) (fun r2 u H locs hu hP hD hS => ?_)
  have hP : va_P (dC, dI) xcl [(A 21, xc21 Z A (ap_R_look M u)), (A 22, xc22 Z A (ap_R_look M u)), (A 23, xc23 Z A (ap_R_look M u)), (A 24, xc24 Z A (ap_R_look M u)), (A 25, xc25 Z A (ap_R_look M u)), (A 26, xc26 Z A (ap_R_look M u)), (A 27, xc27 Z A (ap_R_look M u)), (A 28, xc28 Z A (ap_R_look M u)), (A 29, xc29 Z A (ap_R_look M u)), (A 30, xc30 Z A (ap_R_look M u)), (A 31, xc31 Z A (ap_R_look M u)), (A 0, xc0 Z A N), (A 1, xc1 Z A N), (A 2, xc2 Z A N), (A 3, xc3 Z A N), (A 4, xc4 Z A N), (A 5, xc5 Z A N), (A 6, xc6 Z A N), (A 7, xc7 Z A N), (A 8, xc8 Z A N), (A 9, xc9 Z A N), (A 10, xc10 Z A N), (A 11, xc11 Z A N), (A 12, xc12 Z A N), (A 13, xc13 Z A N), (A 14, xc14 Z A N), (A 15, xc15 Z A N), (A 16, xc16 Z A N), (A 17, xc17 Z A N), (A 18, xc18 Z A N), (A 19, xc19 Z A N), (A 32, xc32 Z A N), (A 20, xc20 Z A (ap_R_look M u))] H := hP
  have hD : va_D AA [(A 21, xc21 Z A (ap_R_look M u)), (A 22, xc22 Z A (ap_R_look M u)), (A 23, xc23 Z A (ap_R_look M u)), (A 24, xc24 Z A (ap_R_look M u)), (A 25, xc25 Z A (ap_R_look M u)), (A 26, xc26 Z A (ap_R_look M u)), (A 27, xc27 Z A (ap_R_look M u)), (A 28, xc28 Z A (ap_R_look M u)), (A 29, xc29 Z A (ap_R_look M u)), (A 30, xc30 Z A (ap_R_look M u)), (A 31, xc31 Z A (ap_R_look M u)), (A 0, xc0 Z A N), (A 1, xc1 Z A N), (A 2, xc2 Z A N), (A 3, xc3 Z A N), (A 4, xc4 Z A N), (A 5, xc5 Z A N), (A 6, xc6 Z A N), (A 7, xc7 Z A N), (A 8, xc8 Z A N), (A 9, xc9 Z A N), (A 10, xc10 Z A N), (A 11, xc11 Z A N), (A 12, xc12 Z A N), (A 13, xc13 Z A N), (A 14, xc14 Z A N), (A 15, xc15 Z A N), (A 16, xc16 Z A N), (A 17, xc17 Z A N), (A 18, xc18 Z A N), (A 19, xc19 Z A N), (A 32, xc32 Z A N), (A 20, xc20 Z A (ap_R_look M u))] := hD
  refine lv_istore (lv' := [(6, .int r2), (5, .int r), (4, .int (nI i)), (3, .ref (A 32)), (2, .ref (A 20)), (1, .ref (A 0)), (0, .ref b)]) hx hb d_L_law_714 hl (by decide) rfl (fun ls hl => ?_)
  refine lv_aload_n hx hb d_L_law_716 rfl (lv_at hl 4 rfl) ?_
  have hPc := hP.sub (ws' := [(A 20, xc20 Z A (ap_R_look M u))]) [32] rfl
  have hDc := hD.sub (ws' := [(A 20, xc20 Z A (ap_R_look M u))]) [32] (by decide) rfl
  refine xk_p (va_runV (As := []) (rest := []) ⟨hx, hb, hml, hown, hts⟩ (c_R_thrown l dC dI Z A _ (ap_R_look M u)) (cwV 0 hts (xw_V _ tw_916 tw_917 tw_918 tw_12 tw_919) rfl rfl rfl (by decide +kernel) ⟨Nat.le_of_ble_eq_true rfl, Nat.le_of_ble_eq_true rfl⟩) ⟨xB_blind, va_recv (q0 := 32) (ci := 10) hK hP rfl rfl, fun U hU hW => ⟨rfl, xB_at hPc hK hDc hq U hU hW⟩⟩ rfl rfl hl.1 rfl (lv_room (Nat.le_of_ble_eq_true rfl)) d_L_law_717 ⟨Nat.le_trans (Nat.le_refl _) hcl, Nat.le_trans (Nat.le_refl _) hsl⟩) ?_
  refine lv_iload hx hb d_L_law_720 (lv_at hl 1 rfl) ?_
  have ht : F_R_thrown (ap_R_look M u) = r := by
    have e2 : u = (F_R_look M (sc (i + 1))).2 := congrArg Prod.snd hu
    rw [e2]
    exact heq.trans (congrArg Prod.fst hG).symm
  refine lv_icmp_eq (tgt := 727) hx hb d_L_law_722 rfl (fun _ => ?_) (fun h => absurd ht h)
  refine lv_iload hx hb d_L_law_727 (lv_at hl 1 rfl) ?_
  refine lv_if_ne (tgt := 744) hx hb d_L_law_729 rfl (fun _ => ?_) (fun h0 => ?_)
  · refine lv_goto (tgt := 856) hx hb d_L_law_744 rfl ?_
    exact k N u H locs ls (congrArg Prod.snd hG) (congrArg Prod.snd hu) (show va_P (dC, dI) xcl (xAll Z A (xmix N (ap_R_look M u))) H from hP.sub [11, 12, 13, 14, 15, 16, 17, 18, 19, 20, 21, 22, 23, 24, 25, 26, 27, 28, 29, 30, 32, 0, 1, 2, 3, 4, 5, 6, 7, 8, 9, 10, 31] rfl) (show va_D AA (xAll Z A (xmix N (ap_R_look M u))) from hD.sub [11, 12, 13, 14, 15, 16, 17, 18, 19, 20, 21, 22, 23, 24, 25, 26, 27, 28, 29, 30, 32, 0, 1, 2, 3, 4, 5, 6, 7, 8, 9, 10, 31] (by decide) rfl) hS (lv_sub hl [2, 3, 4, 5, 6] rfl)
  · refine lv_aload_n hx hb d_L_law_732 rfl (lv_at hl 3 rfl) ?_
    refine lv_iconst (v := 0) hx hb d_L_law_733 (by decide) ?_
    refine va_lald (D := (dC, dI)) hx hb hK hP 31 1 rfl rfl (by unfold vp_in; decide) d_L_law_734 ?_
    refine W.eq (g2 := F0 m 735 ls [.long ((N.2.2.2 32) 0)]) rfl ?_
    refine lv_iload hx hb d_L_law_735 (lv_at hl 0 rfl) ?_
    refine lv_i2l (v := r2.toInt64) hx hb d_L_law_737 rfl ?_
    refine W.lcmp hx hb d_L_law_738 ?_
    have hv : (N.2.2.2 32) 0 = r2.toInt64 := by
      have e1 : N = (G_L_look M (sc (i + 1))).2 := congrArg Prod.snd hG
      have e2 : r2 = (F_R_look M (sc (i + 1))).1 := congrArg Prod.fst hu
      rw [e1, e2]
      exact heq2 ((congrArg Prod.fst hG).symm.trans h0)
    refine lv_if_eq (tgt := 744) hx hb d_L_law_739 rfl (fun _ => ?_) (fun h => absurd ((lg_cmp_eq _ _).mpr hv) h)
    refine lv_goto (tgt := 856) hx hb d_L_law_744 rfl ?_
    exact k N u H locs ls (congrArg Prod.snd hG) (congrArg Prod.snd hu) (show va_P (dC, dI) xcl (xAll Z A (xmix N (ap_R_look M u))) H from hP.sub [11, 12, 13, 14, 15, 16, 17, 18, 19, 20, 21, 22, 23, 24, 25, 26, 27, 28, 29, 30, 32, 0, 1, 2, 3, 4, 5, 6, 7, 8, 9, 10, 31] rfl) (show va_D AA (xAll Z A (xmix N (ap_R_look M u))) from hD.sub [11, 12, 13, 14, 15, 16, 17, 18, 19, 20, 21, 22, 23, 24, 25, 26, 27, 28, 29, 30, 32, 0, 1, 2, 3, 4, 5, 6, 7, 8, 9, 10, 31] (by decide) rfl) hS (lv_sub hl [2, 3, 4, 5, 6] rfl)
theorem d_L_law_789 : decode code 789 = .ok (.aload_n 1, 1) := by decide +kernel
theorem d_L_law_790 : decode code 790 = .ok (.aload_n 0, 1) := by decide +kernel
theorem d_L_law_791 : decode code 791 = .ok (.iload 4, 2) := by decide +kernel
theorem d_L_law_793 : decode code 793 = .ok (.iconst 1, 1) := by decide +kernel
theorem d_L_law_794 : decode code 794 = .ok (.iadd, 1) := by decide +kernel
theorem d_L_law_795 : decode code 795 = .ok (.iaload, 1) := by decide +kernel
theorem d_L_law_796 : decode code 796 = .ok (.aload_n 0, 1) := by decide +kernel
theorem d_L_law_797 : decode code 797 = .ok (.iload 4, 2) := by decide +kernel
theorem d_L_law_799 : decode code 799 = .ok (.iconst 2, 1) := by decide +kernel
theorem d_L_law_800 : decode code 800 = .ok (.iadd, 1) := by decide +kernel
theorem d_L_law_801 : decode code 801 = .ok (.iaload, 1) := by decide +kernel
theorem d_L_law_802 : decode code 802 = .ok (.aload_n 3, 1) := by decide +kernel
theorem d_L_law_803 : decode code 803 = .ok (.invokestatic 132, 3) := by decide +kernel
theorem d_L_law_806 : decode code 806 = .ok (.istore 5, 2) := by decide +kernel
theorem d_L_law_808 : decode code 808 = .ok (.aload_n 2, 1) := by decide +kernel
theorem d_L_law_809 : decode code 809 = .ok (.aload_n 0, 1) := by decide +kernel
theorem d_L_law_810 : decode code 810 = .ok (.iload 4, 2) := by decide +kernel
theorem d_L_law_812 : decode code 812 = .ok (.iconst 1, 1) := by decide +kernel
theorem d_L_law_813 : decode code 813 = .ok (.iadd, 1) := by decide +kernel
theorem d_L_law_814 : decode code 814 = .ok (.iaload, 1) := by decide +kernel
theorem d_L_law_815 : decode code 815 = .ok (.aload_n 0, 1) := by decide +kernel
theorem d_L_law_816 : decode code 816 = .ok (.iload 4, 2) := by decide +kernel
theorem d_L_law_818 : decode code 818 = .ok (.iconst 2, 1) := by decide +kernel
theorem d_L_law_819 : decode code 819 = .ok (.iadd, 1) := by decide +kernel
theorem d_L_law_820 : decode code 820 = .ok (.iaload, 1) := by decide +kernel
theorem d_L_law_821 : decode code 821 = .ok (.invokevirtual 135, 3) := by decide +kernel
theorem d_L_law_824 : decode code 824 = .ok (.lstore 6, 2) := by decide +kernel
theorem d_L_law_826 : decode code 826 = .ok (.aload_n 2, 1) := by decide +kernel
theorem d_L_law_827 : decode code 827 = .ok (.invokevirtual 71, 3) := by decide +kernel
theorem d_L_law_830 : decode code 830 = .ok (.iload 5, 2) := by decide +kernel
theorem d_L_law_832 : decode code 832 = .ok (.if_icmp .eq 5, 3) := by decide +kernel
theorem d_L_law_837 : decode code 837 = .ok (.iload 5, 2) := by decide +kernel
theorem d_L_law_839 : decode code 839 = .ok (.ifCond .ne 14, 3) := by decide +kernel
theorem d_L_law_842 : decode code 842 = .ok (.aload_n 3, 1) := by decide +kernel
theorem d_L_law_843 : decode code 843 = .ok (.iconst 0, 1) := by decide +kernel
theorem d_L_law_844 : decode code 844 = .ok (.laload, 1) := by decide +kernel
theorem d_L_law_845 : decode code 845 = .ok (.lload 6, 2) := by decide +kernel
theorem d_L_law_847 : decode code 847 = .ok (.lcmp, 1) := by decide +kernel
theorem d_L_law_848 : decode code 848 = .ok (.ifCond .eq 5, 3) := by decide +kernel
theorem d_L_law_853 : decode code 853 = .ok (.goto 3, 3) := by decide +kernel
set_option maxHeartbeats 4000000 in
set_option maxRecDepth 100000 in
theorem law_c16 (l : Launch) (htl : l.stackTraces = false) (dC : Nat → ClassId) (dI : Nat → Nat → Nat) (Z : Nat → ClassId) (A : Nat → Nat) (M : XM) {p : Program} {e : Env} {s : State} {m : MethodId} {below : List Frame} {meth : Method} {c : Code} {b L i : Nat} {sc : Nat → Int32} {AA : Nat → Prop} {Q : State → Prop} {H : Heap} {locs : List Loc} {ls : Array Slot} {cells slots : Nat}
    (hx : p.tables.exec = Jvm.exec) (hb : c.code = code) (hml : c.maxLocals = 8) (hown : s.vm.findClass "CentrifugeUnitLaw" = some m.cls) (htt : ∀ w ∈ xw, w.before #[Value.ref b] s = true) (hq : xq s) (hs : xs s) (hK : va_K (dC, dI) xcl (xty Z) s) (hA : ∀ q, s.heap.size ≤ q → AA q) (hA0 : ∀ q : Nat, q < s.heap.size → ¬ AA q) (hX : va_X b L sc s s.heap) (hbl : b < s.heap.size) (hL : L < 2 ^ 31) (hi : i + 6 ≤ L)
    (hP : va_P (dC, dI) xcl (xAll Z A M) H) (hD : va_D AA (xAll Z A M)) (hS : va_S AA s.heap H locs) (hl : lv_has ls 8 [(4, .int (nI i)), (3, .ref (A 32)), (2, .ref (A 20)), (1, .ref (A 0)), (0, .ref b)]) (hcl : cells + 1 ≤ room_1.cells) (hsl : slots + 6 ≤ room_1.slots)
    (heq : F_R_thrown (ap_R_record M (F_R_record M (sc (i + 1)) (sc (i + 2))).2) = (G_L_record M (sc (i + 1)) (sc (i + 2))).1) (heq2 : (G_L_record M (sc (i + 1)) (sc (i + 2))).1 = 0 → ((G_L_record M (sc (i + 1)) (sc (i + 2))).2.2.2.2 32) 0 = (F_R_record M (sc (i + 1)) (sc (i + 2))).1)
    (k : ∀ (N : XM) (u : Int32) (H : Heap) (locs : List Loc) (ls : Array Slot), N = (G_L_record M (sc (i + 1)) (sc (i + 2))).2 → u = (F_R_record M (sc (i + 1)) (sc (i + 2))).2 → va_P (dC, dI) xcl (xAll Z A (xmix N (ap_R_record M u))) H → va_D AA (xAll Z A (xmix N (ap_R_record M u))) → va_S AA s.heap H locs → lv_has ls 8 [(4, .int (nI i)), (3, .ref (A 32)), (2, .ref (A 20)), (1, .ref (A 0)), (0, .ref b)] → W p l e room_1 s m #[Value.ref b] below meth c H locs (cells + 1) (slots + 6) Q (F0 m 856 ls [])) : W p l e room_1 s m #[Value.ref b] below meth c H locs cells slots Q (F0 m 789 ls []) := by
  have hbA : ¬ AA b := hA0 b hbl
  have hts : ∀ w ∈ (Cond.initialized "CentrifugeUnitLaw" :: xw), w.before #[Value.ref b] s = true := fun w h => htt w (by rcases List.mem_cons.mp h with rfl | h; exact tw_0; exact h)
  have hP : va_P (dC, dI) xcl [(A 0, xc0 Z A M), (A 1, xc1 Z A M), (A 2, xc2 Z A M), (A 3, xc3 Z A M), (A 4, xc4 Z A M), (A 5, xc5 Z A M), (A 6, xc6 Z A M), (A 7, xc7 Z A M), (A 8, xc8 Z A M), (A 9, xc9 Z A M), (A 10, xc10 Z A M), (A 11, xc11 Z A M), (A 12, xc12 Z A M), (A 13, xc13 Z A M), (A 14, xc14 Z A M), (A 15, xc15 Z A M), (A 16, xc16 Z A M), (A 17, xc17 Z A M), (A 18, xc18 Z A M), (A 19, xc19 Z A M), (A 20, xc20 Z A M), (A 21, xc21 Z A M), (A 22, xc22 Z A M), (A 23, xc23 Z A M), (A 24, xc24 Z A M), (A 25, xc25 Z A M), (A 26, xc26 Z A M), (A 27, xc27 Z A M), (A 28, xc28 Z A M), (A 29, xc29 Z A M), (A 30, xc30 Z A M), (A 31, xc31 Z A M), (A 32, xc32 Z A M)] H := hP
  have hD : va_D AA [(A 0, xc0 Z A M), (A 1, xc1 Z A M), (A 2, xc2 Z A M), (A 3, xc3 Z A M), (A 4, xc4 Z A M), (A 5, xc5 Z A M), (A 6, xc6 Z A M), (A 7, xc7 Z A M), (A 8, xc8 Z A M), (A 9, xc9 Z A M), (A 10, xc10 Z A M), (A 11, xc11 Z A M), (A 12, xc12 Z A M), (A 13, xc13 Z A M), (A 14, xc14 Z A M), (A 15, xc15 Z A M), (A 16, xc16 Z A M), (A 17, xc17 Z A M), (A 18, xc18 Z A M), (A 19, xc19 Z A M), (A 20, xc20 Z A M), (A 21, xc21 Z A M), (A 22, xc22 Z A M), (A 23, xc23 Z A M), (A 24, xc24 Z A M), (A 25, xc25 Z A M), (A 26, xc26 Z A M), (A 27, xc27 Z A M), (A 28, xc28 Z A M), (A 29, xc29 Z A M), (A 30, xc30 Z A M), (A 31, xc31 Z A M), (A 32, xc32 Z A M)] := hD
  refine lv_aload_n hx hb d_L_law_789 rfl (lv_at hl 3 rfl) ?_
  refine xl_arg hx hb hX hbl hbA hS hL hl (p0 := 4) (p4 := 0) rfl rfl 1 (by omega) (by decide) d_L_law_790 d_L_law_791 d_L_law_793 d_L_law_794 d_L_law_795 ?_
  refine xl_arg hx hb hX hbl hbA hS hL hl (p0 := 4) (p4 := 0) rfl rfl 2 (by omega) (by decide) d_L_law_796 d_L_law_797 d_L_law_799 d_L_law_800 d_L_law_801 ?_
  refine lv_aload_n hx hb d_L_law_802 rfl (lv_at hl 1 rfl) ?_
  have hPc := hP.sub (ws' := [(A 0, xc0 Z A M), (A 1, xc1 Z A M), (A 2, xc2 Z A M), (A 3, xc3 Z A M), (A 4, xc4 Z A M), (A 5, xc5 Z A M), (A 6, xc6 Z A M), (A 7, xc7 Z A M), (A 8, xc8 Z A M), (A 9, xc9 Z A M), (A 10, xc10 Z A M), (A 11, xc11 Z A M), (A 12, xc12 Z A M), (A 13, xc13 Z A M), (A 14, xc14 Z A M), (A 15, xc15 Z A M), (A 16, xc16 Z A M), (A 17, xc17 Z A M), (A 18, xc18 Z A M), (A 19, xc19 Z A M), (A 32, xc32 Z A M)]) [0, 1, 2, 3, 4, 5, 6, 7, 8, 9, 10, 11, 12, 13, 14, 15, 16, 17, 18, 19, 32] rfl
  have hDc := hD.sub (ws' := [(A 0, xc0 Z A M), (A 1, xc1 Z A M), (A 2, xc2 Z A M), (A 3, xc3 Z A M), (A 4, xc4 Z A M), (A 5, xc5 Z A M), (A 6, xc6 Z A M), (A 7, xc7 Z A M), (A 8, xc8 Z A M), (A 9, xc9 Z A M), (A 10, xc10 Z A M), (A 11, xc11 Z A M), (A 12, xc12 Z A M), (A 13, xc13 Z A M), (A 14, xc14 Z A M), (A 15, xc15 Z A M), (A 16, xc16 Z A M), (A 17, xc17 Z A M), (A 18, xc18 Z A M), (A 19, xc19 Z A M), (A 32, xc32 Z A M)]) [0, 1, 2, 3, 4, 5, 6, 7, 8, 9, 10, 11, 12, 13, 14, 15, 16, 17, 18, 19, 32] (by decide) rfl
  refine xk_i (wc := [(A 0, xc0 Z A M), (A 1, xc1 Z A M), (A 2, xc2 Z A M), (A 3, xc3 Z A M), (A 4, xc4 Z A M), (A 5, xc5 Z A M), (A 6, xc6 Z A M), (A 7, xc7 Z A M), (A 8, xc8 Z A M), (A 9, xc9 Z A M), (A 10, xc10 Z A M), (A 11, xc11 Z A M), (A 12, xc12 Z A M), (A 13, xc13 Z A M), (A 14, xc14 Z A M), (A 15, xc15 Z A M), (A 16, xc16 Z A M), (A 17, xc17 Z A M), (A 18, xc18 Z A M), (A 19, xc19 Z A M), (A 32, xc32 Z A M)]) (wr := [(A 20, xc20 Z A M), (A 21, xc21 Z A M), (A 22, xc22 Z A M), (A 23, xc23 Z A M), (A 24, xc24 Z A M), (A 25, xc25 Z A M), (A 26, xc26 Z A M), (A 27, xc27 Z A M), (A 28, xc28 Z A M), (A 29, xc29 Z A M), (A 30, xc30 Z A M), (A 31, xc31 Z A M)]) (xt_runSW (n := 4) (As := [.ref (A 0), .int (sc (i + 1)), .int (sc (i + 2)), .ref (A 32)]) (rest := []) ⟨hx, hb, hml, hown, hts⟩ (c_L_record l htl dC dI Z A _ M (sc (i + 1)) (sc (i + 2))) List.mem_cons_self rfl rfl ⟨Nat.le_of_ble_eq_true rfl, Nat.le_of_ble_eq_true rfl⟩ (xw_call _ tw_742) (htt _ tw_740) (htt _ tw_741) (htt _ tw_0) (by decide) (by decide +kernel) ⟨xBs_blind, fun U hU hW => ⟨rfl, xBs_in hPc hK hDc hq hs hS hA0 U hU hW⟩⟩ rfl rfl hl.1 rfl (lv_room (Nat.le_of_ble_eq_true rfl)) d_L_law_803 ⟨hcl, hsl⟩) hP hD hS hA [0, 1, 2, 3, 4, 5, 6, 7, 8, 9, 10, 11, 12, 13, 14, 15, 16, 17, 18, 19, 32] [20, 21, 22, 23, 24, 25, 26, 27, 28, 29, 30, 31] rfl rfl (by decide) (by decide) (fun r N H locs hG hP hD hS => ?_)
  have hP : va_P (dC, dI) xcl [(A 20, xc20 Z A M), (A 21, xc21 Z A M), (A 22, xc22 Z A M), (A 23, xc23 Z A M), (A 24, xc24 Z A M), (A 25, xc25 Z A M), (A 26, xc26 Z A M), (A 27, xc27 Z A M), (A 28, xc28 Z A M), (A 29, xc29 Z A M), (A 30, xc30 Z A M), (A 31, xc31 Z A M), (A 0, xc0 Z A N), (A 1, xc1 Z A N), (A 2, xc2 Z A N), (A 3, xc3 Z A N), (A 4, xc4 Z A N), (A 5, xc5 Z A N), (A 6, xc6 Z A N), (A 7, xc7 Z A N), (A 8, xc8 Z A N), (A 9, xc9 Z A N), (A 10, xc10 Z A N), (A 11, xc11 Z A N), (A 12, xc12 Z A N), (A 13, xc13 Z A N), (A 14, xc14 Z A N), (A 15, xc15 Z A N), (A 16, xc16 Z A N), (A 17, xc17 Z A N), (A 18, xc18 Z A N), (A 19, xc19 Z A N), (A 32, xc32 Z A N)] H := hP
  have hD : va_D AA [(A 20, xc20 Z A M), (A 21, xc21 Z A M), (A 22, xc22 Z A M), (A 23, xc23 Z A M), (A 24, xc24 Z A M), (A 25, xc25 Z A M), (A 26, xc26 Z A M), (A 27, xc27 Z A M), (A 28, xc28 Z A M), (A 29, xc29 Z A M), (A 30, xc30 Z A M), (A 31, xc31 Z A M), (A 0, xc0 Z A N), (A 1, xc1 Z A N), (A 2, xc2 Z A N), (A 3, xc3 Z A N), (A 4, xc4 Z A N), (A 5, xc5 Z A N), (A 6, xc6 Z A N), (A 7, xc7 Z A N), (A 8, xc8 Z A N), (A 9, xc9 Z A N), (A 10, xc10 Z A N), (A 11, xc11 Z A N), (A 12, xc12 Z A N), (A 13, xc13 Z A N), (A 14, xc14 Z A N), (A 15, xc15 Z A N), (A 16, xc16 Z A N), (A 17, xc17 Z A N), (A 18, xc18 Z A N), (A 19, xc19 Z A N), (A 32, xc32 Z A N)] := hD
  refine lv_istore (lv' := [(5, .int r), (4, .int (nI i)), (3, .ref (A 32)), (2, .ref (A 20)), (1, .ref (A 0)), (0, .ref b)]) hx hb d_L_law_806 hl (by decide) rfl (fun ls hl => ?_)
  refine lv_aload_n hx hb d_L_law_808 rfl (lv_at hl 3 rfl) ?_
  refine xl_arg hx hb hX hbl hbA hS hL hl (p0 := 5) (p4 := 1) rfl rfl 1 (by omega) (by decide) d_L_law_809 d_L_law_810 d_L_law_812 d_L_law_813 d_L_law_814 ?_
  refine xl_arg hx hb hX hbl hbA hS hL hl (p0 := 5) (p4 := 1) rfl rfl 2 (by omega) (by decide) d_L_law_815 d_L_law_816 d_L_law_818 d_L_law_819 d_L_law_820 ?_
  have hPc := hP.sub (ws' := [(A 20, xc20 Z A M), (A 29, xc29 Z A M), (A 30, xc30 Z A M), (A 31, xc31 Z A M)]) [0, 9, 10, 11] rfl
  have hDc := hD.sub (ws' := [(A 20, xc20 Z A M), (A 29, xc29 Z A M), (A 30, xc30 Z A M), (A 31, xc31 Z A M)]) [0, 9, 10, 11] (by decide) rfl
  refine xk_l (wc := [(A 20, xc20 Z A M), (A 29, xc29 Z A M), (A 30, xc30 Z A M), (A 31, xc31 Z A M)]) (wr := [(A 21, xc21 Z A M), (A 22, xc22 Z A M), (A 23, xc23 Z A M), (A 24, xc24 Z A M), (A 25, xc25 Z A M), (A 26, xc26 Z A M), (A 27, xc27 Z A M), (A 28, xc28 Z A M), (A 0, xc0 Z A N), (A 1, xc1 Z A N), (A 2, xc2 Z A N), (A 3, xc3 Z A N), (A 4, xc4 Z A N), (A 5, xc5 Z A N), (A 6, xc6 Z A N), (A 7, xc7 Z A N), (A 8, xc8 Z A N), (A 9, xc9 Z A N), (A 10, xc10 Z A N), (A 11, xc11 Z A N), (A 12, xc12 Z A N), (A 13, xc13 Z A N), (A 14, xc14 Z A N), (A 15, xc15 Z A N), (A 16, xc16 Z A N), (A 17, xc17 Z A N), (A 18, xc18 Z A N), (A 19, xc19 Z A N), (A 32, xc32 Z A N)]) (va_runV (As := [.int (sc (i + 1)), .int (sc (i + 2))]) (rest := []) ⟨hx, hb, hml, hown, hts⟩ (c_R_record l dC dI Z A _ M (sc (i + 1)) (sc (i + 2))) (cwV 2 hts (xw_V _ tw_1062 tw_1063 tw_1064 tw_12 tw_1065) rfl rfl rfl (by decide +kernel) ⟨Nat.le_of_ble_eq_true rfl, Nat.le_of_ble_eq_true rfl⟩) ⟨xB_blind, va_recv (q0 := 0) (ci := 10) hK hP rfl rfl, fun U hU hW => ⟨rfl, xB_at hPc hK hDc hq U hU hW⟩⟩ rfl rfl hl.1 rfl (lv_room (Nat.le_of_ble_eq_true rfl)) d_L_law_821 ⟨Nat.le_trans (Nat.le_refl _) hcl, Nat.le_trans (Nat.le_refl _) hsl⟩) hP hD hS hA [0, 9, 10, 11] [1, 2, 3, 4, 5, 6, 7, 8, 12, 13, 14, 15, 16, 17, 18, 19, 20, 21, 22, 23, 24, 25, 26, 27, 28, 29, 30, 31, 32] rfl rfl (by decide) (by decide) (fun r2 u H locs hu hP hD hS => ?_)
  have hP : va_P (dC, dI) xcl [(A 21, xc21 Z A (ap_R_record M u)), (A 22, xc22 Z A (ap_R_record M u)), (A 23, xc23 Z A (ap_R_record M u)), (A 24, xc24 Z A (ap_R_record M u)), (A 25, xc25 Z A (ap_R_record M u)), (A 26, xc26 Z A (ap_R_record M u)), (A 27, xc27 Z A (ap_R_record M u)), (A 28, xc28 Z A (ap_R_record M u)), (A 0, xc0 Z A N), (A 1, xc1 Z A N), (A 2, xc2 Z A N), (A 3, xc3 Z A N), (A 4, xc4 Z A N), (A 5, xc5 Z A N), (A 6, xc6 Z A N), (A 7, xc7 Z A N), (A 8, xc8 Z A N), (A 9, xc9 Z A N), (A 10, xc10 Z A N), (A 11, xc11 Z A N), (A 12, xc12 Z A N), (A 13, xc13 Z A N), (A 14, xc14 Z A N), (A 15, xc15 Z A N), (A 16, xc16 Z A N), (A 17, xc17 Z A N), (A 18, xc18 Z A N), (A 19, xc19 Z A N), (A 32, xc32 Z A N), (A 20, xc20 Z A (ap_R_record M u)), (A 29, xc29 Z A (ap_R_record M u)), (A 30, xc30 Z A (ap_R_record M u)), (A 31, xc31 Z A (ap_R_record M u))] H := hP
  have hD : va_D AA [(A 21, xc21 Z A (ap_R_record M u)), (A 22, xc22 Z A (ap_R_record M u)), (A 23, xc23 Z A (ap_R_record M u)), (A 24, xc24 Z A (ap_R_record M u)), (A 25, xc25 Z A (ap_R_record M u)), (A 26, xc26 Z A (ap_R_record M u)), (A 27, xc27 Z A (ap_R_record M u)), (A 28, xc28 Z A (ap_R_record M u)), (A 0, xc0 Z A N), (A 1, xc1 Z A N), (A 2, xc2 Z A N), (A 3, xc3 Z A N), (A 4, xc4 Z A N), (A 5, xc5 Z A N), (A 6, xc6 Z A N), (A 7, xc7 Z A N), (A 8, xc8 Z A N), (A 9, xc9 Z A N), (A 10, xc10 Z A N), (A 11, xc11 Z A N), (A 12, xc12 Z A N), (A 13, xc13 Z A N), (A 14, xc14 Z A N), (A 15, xc15 Z A N), (A 16, xc16 Z A N), (A 17, xc17 Z A N), (A 18, xc18 Z A N), (A 19, xc19 Z A N), (A 32, xc32 Z A N), (A 20, xc20 Z A (ap_R_record M u)), (A 29, xc29 Z A (ap_R_record M u)), (A 30, xc30 Z A (ap_R_record M u)), (A 31, xc31 Z A (ap_R_record M u))] := hD
  refine lv_lstore (lv' := [(6, .long r2), (5, .int r), (4, .int (nI i)), (3, .ref (A 32)), (2, .ref (A 20)), (1, .ref (A 0)), (0, .ref b)]) hx hb d_L_law_824 hl (by decide) rfl (fun ls hl => ?_)
  refine lv_aload_n hx hb d_L_law_826 rfl (lv_at hl 4 rfl) ?_
  have hPc := hP.sub (ws' := [(A 20, xc20 Z A (ap_R_record M u))]) [29] rfl
  have hDc := hD.sub (ws' := [(A 20, xc20 Z A (ap_R_record M u))]) [29] (by decide) rfl
  refine xk_p (va_runV (As := []) (rest := []) ⟨hx, hb, hml, hown, hts⟩ (c_R_thrown l dC dI Z A _ (ap_R_record M u)) (cwV 0 hts (xw_V _ tw_916 tw_917 tw_918 tw_12 tw_919) rfl rfl rfl (by decide +kernel) ⟨Nat.le_of_ble_eq_true rfl, Nat.le_of_ble_eq_true rfl⟩) ⟨xB_blind, va_recv (q0 := 29) (ci := 10) hK hP rfl rfl, fun U hU hW => ⟨rfl, xB_at hPc hK hDc hq U hU hW⟩⟩ rfl rfl hl.1 rfl (lv_room (Nat.le_of_ble_eq_true rfl)) d_L_law_827 ⟨Nat.le_trans (Nat.le_refl _) hcl, Nat.le_trans (Nat.le_refl _) hsl⟩) ?_
  refine lv_iload hx hb d_L_law_830 (lv_at hl 1 rfl) ?_
  have ht : F_R_thrown (ap_R_record M u) = r := by
    have e2 : u = (F_R_record M (sc (i + 1)) (sc (i + 2))).2 := congrArg Prod.snd hu
    rw [e2]
    exact heq.trans (congrArg Prod.fst hG).symm
  refine lv_icmp_eq (tgt := 837) hx hb d_L_law_832 rfl (fun _ => ?_) (fun h => absurd ht h)
  refine lv_iload hx hb d_L_law_837 (lv_at hl 1 rfl) ?_
  refine lv_if_ne (tgt := 853) hx hb d_L_law_839 rfl (fun _ => ?_) (fun h0 => ?_)
  · refine lv_goto (tgt := 856) hx hb d_L_law_853 rfl ?_
    exact k N u H locs ls (congrArg Prod.snd hG) (congrArg Prod.snd hu) (show va_P (dC, dI) xcl (xAll Z A (xmix N (ap_R_record M u))) H from hP.sub [8, 9, 10, 11, 12, 13, 14, 15, 16, 17, 18, 19, 20, 21, 22, 23, 24, 25, 26, 27, 29, 0, 1, 2, 3, 4, 5, 6, 7, 30, 31, 32, 28] rfl) (show va_D AA (xAll Z A (xmix N (ap_R_record M u))) from hD.sub [8, 9, 10, 11, 12, 13, 14, 15, 16, 17, 18, 19, 20, 21, 22, 23, 24, 25, 26, 27, 29, 0, 1, 2, 3, 4, 5, 6, 7, 30, 31, 32, 28] (by decide) rfl) hS (lv_sub hl [2, 3, 4, 5, 6] rfl)
  · refine lv_aload_n hx hb d_L_law_842 rfl (lv_at hl 3 rfl) ?_
    refine lv_iconst (v := 0) hx hb d_L_law_843 (by decide) ?_
    refine va_lald (D := (dC, dI)) hx hb hK hP 28 1 rfl rfl (by unfold vp_in; decide) d_L_law_844 ?_
    refine W.eq (g2 := F0 m 845 ls [.long ((N.2.2.2 32) 0)]) rfl ?_
    refine lv_lload hx hb d_L_law_845 (lv_at hl 0 rfl) ?_
    refine W.lcmp hx hb d_L_law_847 ?_
    have hv : (N.2.2.2 32) 0 = r2 := by
      have e1 : N = (G_L_record M (sc (i + 1)) (sc (i + 2))).2 := congrArg Prod.snd hG
      have e2 : r2 = (F_R_record M (sc (i + 1)) (sc (i + 2))).1 := congrArg Prod.fst hu
      rw [e1, e2]
      exact heq2 ((congrArg Prod.fst hG).symm.trans h0)
    refine lv_if_eq (tgt := 853) hx hb d_L_law_848 rfl (fun _ => ?_) (fun h => absurd ((lg_cmp_eq _ _).mpr hv) h)
    refine lv_goto (tgt := 856) hx hb d_L_law_853 rfl ?_
    exact k N u H locs ls (congrArg Prod.snd hG) (congrArg Prod.snd hu) (show va_P (dC, dI) xcl (xAll Z A (xmix N (ap_R_record M u))) H from hP.sub [8, 9, 10, 11, 12, 13, 14, 15, 16, 17, 18, 19, 20, 21, 22, 23, 24, 25, 26, 27, 29, 0, 1, 2, 3, 4, 5, 6, 7, 30, 31, 32, 28] rfl) (show va_D AA (xAll Z A (xmix N (ap_R_record M u))) from hD.sub [8, 9, 10, 11, 12, 13, 14, 15, 16, 17, 18, 19, 20, 21, 22, 23, 24, 25, 26, 27, 29, 0, 1, 2, 3, 4, 5, 6, 7, 30, 31, 32, 28] (by decide) rfl) hS (lv_sub hl [2, 3, 4, 5, 6] rfl)
