set_option maxRecDepth 20000 in
theorem tw_338 : Cond.methodLink "CentrifugeUnitLaw" 7 ⟨"CentrifugeUnit", "rotor", "(IIIII)V"⟩ ∈ xw := xw_of (List.mem_append_right _ (List.mem_of_getElem? (i := 338) (by decide +kernel))) rfl
set_option maxRecDepth 20000 in
theorem tw_339 : Cond.instanceMethod ⟨"CentrifugeUnit", "rotor", "(IIIII)V"⟩ ∈ xw := xw_of (List.mem_append_right _ (List.mem_of_getElem? (i := 339) (by decide +kernel))) rfl
set_option maxRecDepth 20000 in
theorem tw_340 : Cond.selects "CentrifugeUnit" ⟨"CentrifugeUnit", "rotor", "(IIIII)V"⟩ ⟨"CentrifugeUnit", "rotor", "(IIIII)V"⟩ ∈ xw := xw_of (List.mem_append_right _ (List.mem_of_getElem? (i := 340) (by decide +kernel))) rfl
set_option maxRecDepth 20000 in
theorem tw_341 : Cond.code ⟨"CentrifugeUnit", "rotor", "(IIIII)V"⟩ prog_1_method_2_code 6 (Option.none : Option Jvm.ClassFile.FieldType) ∈ xw := xw_of (List.mem_append_right _ (List.mem_of_getElem? (i := 341) (by decide +kernel))) rfl
set_option maxRecDepth 20000 in
theorem tw_457 : Cond.methodLink "CentrifugeUnitLaw" 21 ⟨"CentrifugeUnit", "segment", "(III)I"⟩ ∈ xw := xw_of (List.mem_append_right _ (List.mem_of_getElem? (i := 457) (by decide +kernel))) rfl
set_option maxRecDepth 20000 in
theorem tw_458 : Cond.instanceMethod ⟨"CentrifugeUnit", "segment", "(III)I"⟩ ∈ xw := xw_of (List.mem_append_right _ (List.mem_of_getElem? (i := 458) (by decide +kernel))) rfl
set_option maxRecDepth 20000 in
theorem tw_459 : Cond.selects "CentrifugeUnit" ⟨"CentrifugeUnit", "segment", "(III)I"⟩ ⟨"CentrifugeUnit", "segment", "(III)I"⟩ ∈ xw := xw_of (List.mem_append_right _ (List.mem_of_getElem? (i := 459) (by decide +kernel))) rfl
set_option maxRecDepth 20000 in
theorem tw_460 : Cond.code ⟨"CentrifugeUnit", "segment", "(III)I"⟩ prog_1_method_4_code 4 (Option.some Jvm.ClassFile.FieldType.int) ∈ xw := xw_of (List.mem_append_right _ (List.mem_of_getElem? (i := 460) (by decide +kernel))) rfl
set_option maxRecDepth 20000 in
theorem tw_501 : Cond.methodLink "CentrifugeUnitLaw" 28 ⟨"CentrifugeUnit", "stop", "()V"⟩ ∈ xw := xw_of (List.mem_append_right _ (List.mem_of_getElem? (i := 501) (by decide +kernel))) rfl
set_option maxRecDepth 20000 in
theorem tw_502 : Cond.instanceMethod ⟨"CentrifugeUnit", "stop", "()V"⟩ ∈ xw := xw_of (List.mem_append_right _ (List.mem_of_getElem? (i := 502) (by decide +kernel))) rfl
set_option maxRecDepth 20000 in
theorem tw_503 : Cond.selects "CentrifugeUnit" ⟨"CentrifugeUnit", "stop", "()V"⟩ ⟨"CentrifugeUnit", "stop", "()V"⟩ ∈ xw := xw_of (List.mem_append_right _ (List.mem_of_getElem? (i := 503) (by decide +kernel))) rfl
set_option maxRecDepth 20000 in
theorem tw_504 : Cond.code ⟨"CentrifugeUnit", "stop", "()V"⟩ prog_1_method_6_code 1 (Option.none : Option Jvm.ClassFile.FieldType) ∈ xw := xw_of (List.mem_append_right _ (List.mem_of_getElem? (i := 504) (by decide +kernel))) rfl
set_option maxRecDepth 20000 in
theorem tw_513 : Cond.methodLink "CentrifugeUnitLaw" 31 ⟨"CentrifugeUnit", "open", "()V"⟩ ∈ xw := xw_of (List.mem_append_right _ (List.mem_of_getElem? (i := 513) (by decide +kernel))) rfl
set_option maxRecDepth 20000 in
theorem tw_514 : Cond.instanceMethod ⟨"CentrifugeUnit", "open", "()V"⟩ ∈ xw := xw_of (List.mem_append_right _ (List.mem_of_getElem? (i := 514) (by decide +kernel))) rfl
set_option maxRecDepth 20000 in
theorem tw_515 : Cond.selects "CentrifugeUnit" ⟨"CentrifugeUnit", "open", "()V"⟩ ⟨"CentrifugeUnit", "open", "()V"⟩ ∈ xw := xw_of (List.mem_append_right _ (List.mem_of_getElem? (i := 515) (by decide +kernel))) rfl
set_option maxRecDepth 20000 in
theorem tw_516 : Cond.code ⟨"CentrifugeUnit", "open", "()V"⟩ prog_1_method_7_code 1 (Option.none : Option Jvm.ClassFile.FieldType) ∈ xw := xw_of (List.mem_append_right _ (List.mem_of_getElem? (i := 516) (by decide +kernel))) rfl
set_option maxRecDepth 20000 in
theorem tw_539 : Cond.methodLink "CentrifugeUnitLaw" 37 ⟨"CentrifugeUnit", "chamber", "(I)V"⟩ ∈ xw := xw_of (List.mem_append_right _ (List.mem_of_getElem? (i := 539) (by decide +kernel))) rfl
set_option maxRecDepth 20000 in
theorem tw_540 : Cond.instanceMethod ⟨"CentrifugeUnit", "chamber", "(I)V"⟩ ∈ xw := xw_of (List.mem_append_right _ (List.mem_of_getElem? (i := 540) (by decide +kernel))) rfl
set_option maxRecDepth 20000 in
theorem tw_541 : Cond.selects "CentrifugeUnit" ⟨"CentrifugeUnit", "chamber", "(I)V"⟩ ⟨"CentrifugeUnit", "chamber", "(I)V"⟩ ∈ xw := xw_of (List.mem_append_right _ (List.mem_of_getElem? (i := 541) (by decide +kernel))) rfl
set_option maxRecDepth 20000 in
theorem tw_542 : Cond.code ⟨"CentrifugeUnit", "chamber", "(I)V"⟩ prog_1_method_10_code 2 (Option.none : Option Jvm.ClassFile.FieldType) ∈ xw := xw_of (List.mem_append_right _ (List.mem_of_getElem? (i := 542) (by decide +kernel))) rfl
set_option maxRecDepth 20000 in
theorem tw_547 : Cond.methodLink "CentrifugeUnitLaw" 40 ⟨"CentrifugeUnit", "fail", "(II)V"⟩ ∈ xw := xw_of (List.mem_append_right _ (List.mem_of_getElem? (i := 547) (by decide +kernel))) rfl
set_option maxRecDepth 20000 in
theorem tw_548 : Cond.instanceMethod ⟨"CentrifugeUnit", "fail", "(II)V"⟩ ∈ xw := xw_of (List.mem_append_right _ (List.mem_of_getElem? (i := 548) (by decide +kernel))) rfl
set_option maxRecDepth 20000 in
theorem tw_549 : Cond.selects "CentrifugeUnit" ⟨"CentrifugeUnit", "fail", "(II)V"⟩ ⟨"CentrifugeUnit", "fail", "(II)V"⟩ ∈ xw := xw_of (List.mem_append_right _ (List.mem_of_getElem? (i := 549) (by decide +kernel))) rfl
set_option maxRecDepth 20000 in
theorem tw_550 : Cond.code ⟨"CentrifugeUnit", "fail", "(II)V"⟩ prog_1_method_11_code 3 (Option.none : Option Jvm.ClassFile.FieldType) ∈ xw := xw_of (List.mem_append_right _ (List.mem_of_getElem? (i := 550) (by decide +kernel))) rfl
set_option maxRecDepth 20000 in
theorem tw_556 : Cond.methodLink "CentrifugeUnitLaw" 44 ⟨"CentrifugeUnit", "power", "(Z)V"⟩ ∈ xw := xw_of (List.mem_append_right _ (List.mem_of_getElem? (i := 556) (by decide +kernel))) rfl
set_option maxRecDepth 20000 in
theorem tw_557 : Cond.instanceMethod ⟨"CentrifugeUnit", "power", "(Z)V"⟩ ∈ xw := xw_of (List.mem_append_right _ (List.mem_of_getElem? (i := 557) (by decide +kernel))) rfl
set_option maxRecDepth 20000 in
theorem tw_558 : Cond.selects "CentrifugeUnit" ⟨"CentrifugeUnit", "power", "(Z)V"⟩ ⟨"CentrifugeUnit", "power", "(Z)V"⟩ ∈ xw := xw_of (List.mem_append_right _ (List.mem_of_getElem? (i := 558) (by decide +kernel))) rfl
set_option maxRecDepth 20000 in
theorem tw_559 : Cond.code ⟨"CentrifugeUnit", "power", "(Z)V"⟩ prog_1_method_12_code 2 (Option.none : Option Jvm.ClassFile.FieldType) ∈ xw := xw_of (List.mem_append_right _ (List.mem_of_getElem? (i := 559) (by decide +kernel))) rfl
set_option maxRecDepth 20000 in
theorem tw_576 : Cond.methodLink "CentrifugeUnitLaw" 48 ⟨"CentrifugeUnit", "tick", "(I)I"⟩ ∈ xw := xw_of (List.mem_append_right _ (List.mem_of_getElem? (i := 576) (by decide +kernel))) rfl
set_option maxRecDepth 20000 in
theorem tw_577 : Cond.instanceMethod ⟨"CentrifugeUnit", "tick", "(I)I"⟩ ∈ xw := xw_of (List.mem_append_right _ (List.mem_of_getElem? (i := 577) (by decide +kernel))) rfl
set_option maxRecDepth 20000 in
theorem tw_578 : Cond.selects "CentrifugeUnit" ⟨"CentrifugeUnit", "tick", "(I)I"⟩ ⟨"CentrifugeUnit", "tick", "(I)I"⟩ ∈ xw := xw_of (List.mem_append_right _ (List.mem_of_getElem? (i := 578) (by decide +kernel))) rfl
set_option maxRecDepth 20000 in
theorem tw_579 : Cond.code ⟨"CentrifugeUnit", "tick", "(I)I"⟩ prog_1_method_13_code 3 (Option.some Jvm.ClassFile.FieldType.int) ∈ xw := xw_of (List.mem_append_right _ (List.mem_of_getElem? (i := 579) (by decide +kernel))) rfl
set_option maxRecDepth 20000 in
theorem tw_735 : Cond.methodLink "CentrifugeUnitLaw" 52 ⟨"CentrifugeUnit", "look", "(I)I"⟩ ∈ xw := xw_of (List.mem_append_right _ (List.mem_of_getElem? (i := 735) (by decide +kernel))) rfl
set_option maxRecDepth 20000 in
theorem tw_736 : Cond.instanceMethod ⟨"CentrifugeUnit", "look", "(I)I"⟩ ∈ xw := xw_of (List.mem_append_right _ (List.mem_of_getElem? (i := 736) (by decide +kernel))) rfl
set_option maxRecDepth 20000 in
theorem tw_737 : Cond.selects "CentrifugeUnit" ⟨"CentrifugeUnit", "look", "(I)I"⟩ ⟨"CentrifugeUnit", "look", "(I)I"⟩ ∈ xw := xw_of (List.mem_append_right _ (List.mem_of_getElem? (i := 737) (by decide +kernel))) rfl
set_option maxRecDepth 20000 in
theorem tw_738 : Cond.code ⟨"CentrifugeUnit", "look", "(I)I"⟩ prog_1_method_14_code 2 (Option.some Jvm.ClassFile.FieldType.int) ∈ xw := xw_of (List.mem_append_right _ (List.mem_of_getElem? (i := 738) (by decide +kernel))) rfl
set_option maxRecDepth 20000 in
theorem tw_743 : Cond.classLink "CentrifugeUnitLaw" 59 "java/lang/IndexOutOfBoundsException" ∈ xw := xw_of (List.mem_append_right _ (List.mem_of_getElem? (i := 743) (by decide +kernel))) rfl
set_option maxRecDepth 20000 in
theorem tw_744 : Cond.methodLink "CentrifugeUnitLaw" 55 ⟨"CentrifugeUnit", "record", "(II)J"⟩ ∈ xw := xw_of (List.mem_append_right _ (List.mem_of_getElem? (i := 744) (by decide +kernel))) rfl
set_option maxRecDepth 20000 in
theorem tw_745 : Cond.instanceMethod ⟨"CentrifugeUnit", "record", "(II)J"⟩ ∈ xw := xw_of (List.mem_append_right _ (List.mem_of_getElem? (i := 745) (by decide +kernel))) rfl
set_option maxRecDepth 20000 in
theorem tw_746 : Cond.selects "CentrifugeUnit" ⟨"CentrifugeUnit", "record", "(II)J"⟩ ⟨"CentrifugeUnit", "record", "(II)J"⟩ ∈ xw := xw_of (List.mem_append_right _ (List.mem_of_getElem? (i := 746) (by decide +kernel))) rfl
set_option maxRecDepth 20000 in
theorem tw_747 : Cond.code ⟨"CentrifugeUnit", "record", "(II)J"⟩ prog_1_method_18_code 3 (Option.some Jvm.ClassFile.FieldType.long) ∈ xw := xw_of (List.mem_append_right _ (List.mem_of_getElem? (i := 747) (by decide +kernel))) rfl
abbrev bc_L_stop : ByteArray := method_7_code
def y_L_stop : MethodName := ⟨"CentrifugeUnitLaw", "stop", "(LCentrifugeUnit;)I"⟩
def G_L_stop (M : XM) : Int32 × XM := (if T_U_stop M = 0 then (0, (ap_U_stop M (F_U_stop M))) else (1, M))
theorem tc_L_stop (M : XM) : T_U_stop M = 0 ∨ T_U_stop M = 2 := by
  simp only [T_U_stop_k1, T_U_stop]; repeat' split
  all_goals simp
theorem d_L_stop_0 : decode bc_L_stop 0 = .ok (.aload_n 0, 1) := by decide +kernel
theorem d_L_stop_1 : decode bc_L_stop 1 = .ok (.invokevirtual 28, 3) := by decide +kernel
theorem d_L_stop_4 : decode bc_L_stop 4 = .ok (.goto 6, 3) := by decide +kernel
theorem d_L_stop_7 : decode bc_L_stop 7 = .ok (.astore_n 1, 1) := by decide +kernel
theorem d_L_stop_8 : decode bc_L_stop 8 = .ok (.iconst 1, 1) := by decide +kernel
theorem d_L_stop_9 : decode bc_L_stop 9 = .ok (.ireturn, 1) := by decide +kernel
theorem d_L_stop_10 : decode bc_L_stop 10 = .ok (.iconst 0, 1) := by decide +kernel
theorem d_L_stop_11 : decode bc_L_stop 11 = .ok (.ireturn, 1) := by decide +kernel
set_option maxHeartbeats 4000000 in
set_option maxRecDepth 100000 in
theorem c_L_stop (l : Launch) (htl : l.stackTraces = false) (dC : Nat → ClassId) (dI : Nat → Nat → Nat) (Z : Nat → ClassId) (A : Nat → Nat) (sz : Nat) (M : XM) : Met l y_L_stop (.codeWith y_L_stop bc_L_stop 2 (some .int) [(0, 4, 7, 15)] :: xw) ({ frames := 7, cells := 1, slots := 6, locals := 110 }) (va_Pc [.ref (A 0)] (xBs (dC, dI) xcl (xty Z) sz [(A 0, xc0 Z A M), (A 17, xc17 Z A M)])) (va_Qi (fun (r : Int32) (N : XM) => (r, N) = G_L_stop M) (fun N => xE (dC, dI) xcl (xty Z) (va_A [(A 0, xc0 Z A M), (A 17, xc17 Z A M)] sz) [(A 0, xc0 Z A N), (A 17, xc17 Z A N)]) (va_A [(A 0, xc0 Z A M), (A 17, xc17 Z A M)] sz)) 1 6 (va_A [(A 0, xc0 Z A M), (A 17, xc17 Z A M)] sz) := by
  refine va_MetW (cc := bc_L_stop) (maxL := 2) (ret := (some .int)) (hh := [(0, 4, 7, 15)]) (by decide) rfl ?_
  intro p e s m args below meth c s₁ B hml hv
  obtain ⟨rfl, ⟨hsz, hP, hK, hD0, hq⟩, hs⟩ := hv
  have hx := B.exec
  have hb := B.bytes
  have hr := B.returns
  have hts := atoms_spec (ws := (.codeWith y_L_stop bc_L_stop 2 (some .int) [(0, 4, 7, 15)] :: xw)) B.pre
  have htt : ∀ w ∈ xw, w.before _ s = true := fun w h => hts w (List.mem_cons_of_mem _ h)
  have hown : s.vm.findClass "CentrifugeUnitLaw" = some m.cls := findClass_of_methodNamed B.named
  have hlocks := B.notSynchronized
  have htab := xh_list (xh_table B (hts _ List.mem_cons_self))
  subst hsz
  have hD := hD0.self (sz := s.heap.size)
  generalize hAe : va_A [(A 0, xc0 Z A M), (A 17, xc17 Z A M)] s.heap.size = AA at hD ⊢
  have hA : ∀ q : Nat, s.heap.size ≤ q → AA q := fun q h => by rw [← hAe]; exact Or.inr h
  have hS : va_S AA s.heap s.heap [] := va_S.rf
  have hP : va_P (dC, dI) xcl [(A 0, .inr (9, [.ref (A 1), .ref (A 6), .ref (A 10), .ref (A 11), .ref (A 12), .ref (A 13), .ref (A 17)])), (A 17, .inr (0, [.ref (A 1), .ref (A 6), .ref (A 11), .ref (A 12), .ref (A 13), .ref (A 18), .ref (A 19), .int (M.1 12), .int (M.1 13), .int (M.1 14), .int (M.1 15), .int (M.1 16), .int (M.1 17), .int (M.1 18)]))] s.heap := hP
  have hD : va_D AA [(A 0, .inr (9, [.ref (A 1), .ref (A 6), .ref (A 10), .ref (A 11), .ref (A 12), .ref (A 13), .ref (A 17)])), (A 17, .inr (0, [.ref (A 1), .ref (A 6), .ref (A 11), .ref (A 12), .ref (A 13), .ref (A 18), .ref (A 19), .int (M.1 12), .int (M.1 13), .int (M.1 14), .int (M.1 15), .int (M.1 16), .int (M.1 17), .int (M.1 18)]))] := hD
  have hl := lv_entry ([.ref (A 0)]) (n := 2) (Nat.le_of_ble_eq_true rfl)
  rw [lg_entry_eq]
  generalize (lg_sl ([.ref (A 0)]) ++ List.replicate (2 - (lg_sl ([.ref (A 0)])).length) Slot.unset).toArray = ls at hl ⊢
  have hl : lv_has ls 2 [(0, .ref (A 0))] := hl
  have hPc := hP.sub (ws' := [(A 0, xc0 Z A M), (A 17, xc17 Z A M)]) [0, 1] rfl
  have hDc := hD.sub (ws' := [(A 0, xc0 Z A M), (A 17, xc17 Z A M)]) [0, 1] (by decide) rfl
  refine lv_aload_n hx hb d_L_stop_0 rfl (lv_at hl 0 rfl) ?_
  rcases tc_L_stop M with hT | hT
  · have hG : G_L_stop M = (0, (ap_U_stop M (F_U_stop M))) := by rw [G_L_stop, if_pos hT]
    refine xk_v (wc := [(A 0, xc0 Z A M), (A 17, xc17 Z A M)]) (wr := []) (va_runV (As := []) (rest := []) ⟨hx, hb, hml, hown, hts⟩ (c_U_stop l dC dI Z A _ M hT) (cwV 0 hts (xw_V _ tw_501 tw_502 tw_503 tw_1 tw_504) rfl rfl rfl (by decide +kernel) ⟨Nat.le_of_ble_eq_true rfl, Nat.le_of_ble_eq_true rfl⟩) ⟨xB_blind, va_recv (q0 := 0) (ci := 9) hK hP rfl rfl, fun U hU hW => ⟨rfl, xB_at hPc hK hDc hq U hU hW⟩⟩ rfl rfl hl.1 rfl (lv_room (Nat.le_of_ble_eq_true rfl)) d_L_stop_1 ⟨Nat.le_of_ble_eq_true rfl, Nat.le_of_ble_eq_true rfl⟩) hP hD hS hA [0, 1] [] rfl rfl (by decide) (by decide) (fun u H locs hu hP hD hS => ?_)
    subst hu
    have hP : va_P (dC, dI) xcl [(A 0, xc0 Z A (ap_U_stop M (F_U_stop M))), (A 17, xc17 Z A (ap_U_stop M (F_U_stop M)))] H := hP
    have hD : va_D AA [(A 0, xc0 Z A (ap_U_stop M (F_U_stop M))), (A 17, xc17 Z A (ap_U_stop M (F_U_stop M)))] := hD
    refine lv_goto (tgt := 10) hx hb d_L_stop_4 rfl ?_
    refine lv_iconst (v := 0) hx hb d_L_stop_10 (by decide) ?_
    have hP9 := hP.sub (ws' := [(A 0, xc0 Z A (ap_U_stop M (F_U_stop M))), (A 17, xc17 Z A (ap_U_stop M (F_U_stop M)))]) [0, 1] rfl
    have hD9 := hD.sub (ws' := [(A 0, xc0 Z A (ap_U_stop M (F_U_stop M))), (A 17, xc17 Z A (ap_U_stop M (F_U_stop M)))]) [0, 1] (by decide) rfl
    refine W.widen (k := 1) (n := 6) (by decide) (by decide) ?_
    exact W.iret hx hb hr (fun t ht hW => ⟨⟨0, (ap_U_stop M (F_U_stop M)), rfl, hG.symm, xE_at hP9 hK hD9 ht hW⟩, hS.F ht⟩) hS.2.2 d_L_stop_11
  · have hG : G_L_stop M = (1, M) := by rw [G_L_stop, if_neg (by rw [hT]; decide)]
    refine xt_catchV (hpc := 7) (As := []) (rest := []) ⟨hx, hb, hml, hown, hts⟩ (t2_U_stop l dC dI Z A _ M htl hT) (cwV 0 hts (xw_V _ tw_501 tw_502 tw_503 tw_1 tw_504) rfl rfl rfl (by decide +kernel) ⟨Nat.le_of_ble_eq_true rfl, Nat.le_of_ble_eq_true rfl⟩) ⟨xBs_blind, va_recv (q0 := 0) (ci := 9) hK hP rfl rfl, fun U hU hW => ⟨rfl, xBs_at hPc hK hDc hq hs U hU hW⟩⟩ rfl hl.1 rfl (Nat.le_of_ble_eq_true rfl) d_L_stop_1 ⟨Nat.le_of_ble_eq_true rfl, Nat.le_of_ble_eq_true rfl⟩ (fun pl hpl th hth => by
        rw [htab]
        exact xr_hit hpl hown (by decide) (by decide) (htt (.classLink "CentrifugeUnitLaw" 15 "java/lang/IllegalStateException") tw_337) (hq.2.2 (.castable "java/lang/IllegalStateException" "java/lang/IllegalStateException") (by decide +kernel)) hth rfl) (fun xa H1 hz ho => ?_)
    refine lv_astore_n (lv' := [(1, .ref xa), (0, .ref (A 0))]) hx hb d_L_stop_7 rfl hl (by decide) rfl (fun ls hl => ?_)
    refine lv_iconst (v := 1) hx hb d_L_stop_8 (by decide) ?_
    have hP9 : va_P (dC, dI) xcl [(A 0, xc0 Z A M), (A 17, xc17 Z A M)] H1 := xP_kept hP ho
    have hS := xS_kept hS hz ho
    exact W.iret hx hb hr (fun t ht hW => ⟨⟨1, M, rfl, hG.symm, xE_at hP9 hK hD ht hW⟩, hS.F ht⟩) hS.2.2 d_L_stop_9
abbrev bc_L_open : ByteArray := method_8_code
def y_L_open : MethodName := ⟨"CentrifugeUnitLaw", "open", "(LCentrifugeUnit;)I"⟩
def G_L_open (M : XM) : Int32 × XM := (if T_U_open M = 0 then (0, (ap_U_open M (F_U_open M))) else (1, M))
theorem tc_L_open (M : XM) : T_U_open M = 0 ∨ T_U_open M = 2 := by
  simp only [T_U_open_k2, T_U_open_k1, T_U_open]; repeat' split
  all_goals simp
theorem d_L_open_0 : decode bc_L_open 0 = .ok (.aload_n 0, 1) := by decide +kernel
theorem d_L_open_1 : decode bc_L_open 1 = .ok (.invokevirtual 31, 3) := by decide +kernel
theorem d_L_open_4 : decode bc_L_open 4 = .ok (.goto 6, 3) := by decide +kernel
theorem d_L_open_7 : decode bc_L_open 7 = .ok (.astore_n 1, 1) := by decide +kernel
theorem d_L_open_8 : decode bc_L_open 8 = .ok (.iconst 1, 1) := by decide +kernel
theorem d_L_open_9 : decode bc_L_open 9 = .ok (.ireturn, 1) := by decide +kernel
theorem d_L_open_10 : decode bc_L_open 10 = .ok (.iconst 0, 1) := by decide +kernel
theorem d_L_open_11 : decode bc_L_open 11 = .ok (.ireturn, 1) := by decide +kernel
set_option maxHeartbeats 4000000 in
set_option maxRecDepth 100000 in
theorem c_L_open (l : Launch) (htl : l.stackTraces = false) (dC : Nat → ClassId) (dI : Nat → Nat → Nat) (Z : Nat → ClassId) (A : Nat → Nat) (sz : Nat) (M : XM) : Met l y_L_open (.codeWith y_L_open bc_L_open 2 (some .int) [(0, 4, 7, 15)] :: xw) ({ frames := 7, cells := 1, slots := 6, locals := 110 }) (va_Pc [.ref (A 0)] (xBs (dC, dI) xcl (xty Z) sz [(A 0, xc0 Z A M), (A 17, xc17 Z A M), (A 18, xc18 Z A M), (A 12, xc12 Z A M)])) (va_Qi (fun (r : Int32) (N : XM) => (r, N) = G_L_open M) (fun N => xE (dC, dI) xcl (xty Z) (va_A [(A 0, xc0 Z A M), (A 17, xc17 Z A M), (A 18, xc18 Z A M), (A 12, xc12 Z A M)] sz) [(A 0, xc0 Z A N), (A 17, xc17 Z A N), (A 18, xc18 Z A N), (A 12, xc12 Z A N)]) (va_A [(A 0, xc0 Z A M), (A 17, xc17 Z A M), (A 18, xc18 Z A M), (A 12, xc12 Z A M)] sz)) 1 6 (va_A [(A 0, xc0 Z A M), (A 17, xc17 Z A M), (A 18, xc18 Z A M), (A 12, xc12 Z A M)] sz) := by
  refine va_MetW (cc := bc_L_open) (maxL := 2) (ret := (some .int)) (hh := [(0, 4, 7, 15)]) (by decide) rfl ?_
  intro p e s m args below meth c s₁ B hml hv
  obtain ⟨rfl, ⟨hsz, hP, hK, hD0, hq⟩, hs⟩ := hv
  have hx := B.exec
  have hb := B.bytes
  have hr := B.returns
  have hts := atoms_spec (ws := (.codeWith y_L_open bc_L_open 2 (some .int) [(0, 4, 7, 15)] :: xw)) B.pre
  have htt : ∀ w ∈ xw, w.before _ s = true := fun w h => hts w (List.mem_cons_of_mem _ h)
  have hown : s.vm.findClass "CentrifugeUnitLaw" = some m.cls := findClass_of_methodNamed B.named
  have hlocks := B.notSynchronized
  have htab := xh_list (xh_table B (hts _ List.mem_cons_self))
  subst hsz
  have hD := hD0.self (sz := s.heap.size)
  generalize hAe : va_A [(A 0, xc0 Z A M), (A 17, xc17 Z A M), (A 18, xc18 Z A M), (A 12, xc12 Z A M)] s.heap.size = AA at hD ⊢
  have hA : ∀ q : Nat, s.heap.size ≤ q → AA q := fun q h => by rw [← hAe]; exact Or.inr h
  have hS : va_S AA s.heap s.heap [] := va_S.rf
  have hP : va_P (dC, dI) xcl [(A 0, .inr (9, [.ref (A 1), .ref (A 6), .ref (A 10), .ref (A 11), .ref (A 12), .ref (A 13), .ref (A 17)])), (A 17, .inr (0, [.ref (A 1), .ref (A 6), .ref (A 11), .ref (A 12), .ref (A 13), .ref (A 18), .ref (A 19), .int (M.1 12), .int (M.1 13), .int (M.1 14), .int (M.1 15), .int (M.1 16), .int (M.1 17), .int (M.1 18)])), (A 18, .inr (8, [.int (M.1 19), .int (M.1 20), .int (M.1 21), .int (M.1 22)])), (A 12, .inr (1, [.int (M.1 8), .int (M.1 9), .int (M.1 10)]))] s.heap := hP
  have hD : va_D AA [(A 0, .inr (9, [.ref (A 1), .ref (A 6), .ref (A 10), .ref (A 11), .ref (A 12), .ref (A 13), .ref (A 17)])), (A 17, .inr (0, [.ref (A 1), .ref (A 6), .ref (A 11), .ref (A 12), .ref (A 13), .ref (A 18), .ref (A 19), .int (M.1 12), .int (M.1 13), .int (M.1 14), .int (M.1 15), .int (M.1 16), .int (M.1 17), .int (M.1 18)])), (A 18, .inr (8, [.int (M.1 19), .int (M.1 20), .int (M.1 21), .int (M.1 22)])), (A 12, .inr (1, [.int (M.1 8), .int (M.1 9), .int (M.1 10)]))] := hD
  have hl := lv_entry ([.ref (A 0)]) (n := 2) (Nat.le_of_ble_eq_true rfl)
  rw [lg_entry_eq]
  generalize (lg_sl ([.ref (A 0)]) ++ List.replicate (2 - (lg_sl ([.ref (A 0)])).length) Slot.unset).toArray = ls at hl ⊢
  have hl : lv_has ls 2 [(0, .ref (A 0))] := hl
  have hPc := hP.sub (ws' := [(A 0, xc0 Z A M), (A 17, xc17 Z A M), (A 18, xc18 Z A M), (A 12, xc12 Z A M)]) [0, 1, 2, 3] rfl
  have hDc := hD.sub (ws' := [(A 0, xc0 Z A M), (A 17, xc17 Z A M), (A 18, xc18 Z A M), (A 12, xc12 Z A M)]) [0, 1, 2, 3] (by decide) rfl
  refine lv_aload_n hx hb d_L_open_0 rfl (lv_at hl 0 rfl) ?_
  rcases tc_L_open M with hT | hT
  · have hG : G_L_open M = (0, (ap_U_open M (F_U_open M))) := by rw [G_L_open, if_pos hT]
    refine xk_v (wc := [(A 0, xc0 Z A M), (A 17, xc17 Z A M), (A 18, xc18 Z A M), (A 12, xc12 Z A M)]) (wr := []) (va_runV (As := []) (rest := []) ⟨hx, hb, hml, hown, hts⟩ (c_U_open l dC dI Z A _ M hT) (cwV 0 hts (xw_V _ tw_513 tw_514 tw_515 tw_1 tw_516) rfl rfl rfl (by decide +kernel) ⟨Nat.le_of_ble_eq_true rfl, Nat.le_of_ble_eq_true rfl⟩) ⟨xB_blind, va_recv (q0 := 0) (ci := 9) hK hP rfl rfl, fun U hU hW => ⟨rfl, xB_at hPc hK hDc hq U hU hW⟩⟩ rfl rfl hl.1 rfl (lv_room (Nat.le_of_ble_eq_true rfl)) d_L_open_1 ⟨Nat.le_of_ble_eq_true rfl, Nat.le_of_ble_eq_true rfl⟩) hP hD hS hA [0, 1, 2, 3] [] rfl rfl (by decide) (by decide) (fun u H locs hu hP hD hS => ?_)
    subst hu
    have hP : va_P (dC, dI) xcl [(A 0, xc0 Z A (ap_U_open M (F_U_open M))), (A 17, xc17 Z A (ap_U_open M (F_U_open M))), (A 18, xc18 Z A (ap_U_open M (F_U_open M))), (A 12, xc12 Z A (ap_U_open M (F_U_open M)))] H := hP
    have hD : va_D AA [(A 0, xc0 Z A (ap_U_open M (F_U_open M))), (A 17, xc17 Z A (ap_U_open M (F_U_open M))), (A 18, xc18 Z A (ap_U_open M (F_U_open M))), (A 12, xc12 Z A (ap_U_open M (F_U_open M)))] := hD
    refine lv_goto (tgt := 10) hx hb d_L_open_4 rfl ?_
    refine lv_iconst (v := 0) hx hb d_L_open_10 (by decide) ?_
    have hP9 := hP.sub (ws' := [(A 0, xc0 Z A (ap_U_open M (F_U_open M))), (A 17, xc17 Z A (ap_U_open M (F_U_open M))), (A 18, xc18 Z A (ap_U_open M (F_U_open M))), (A 12, xc12 Z A (ap_U_open M (F_U_open M)))]) [0, 1, 2, 3] rfl
    have hD9 := hD.sub (ws' := [(A 0, xc0 Z A (ap_U_open M (F_U_open M))), (A 17, xc17 Z A (ap_U_open M (F_U_open M))), (A 18, xc18 Z A (ap_U_open M (F_U_open M))), (A 12, xc12 Z A (ap_U_open M (F_U_open M)))]) [0, 1, 2, 3] (by decide) rfl
    refine W.widen (k := 1) (n := 6) (by decide) (by decide) ?_
    exact W.iret hx hb hr (fun t ht hW => ⟨⟨0, (ap_U_open M (F_U_open M)), rfl, hG.symm, xE_at hP9 hK hD9 ht hW⟩, hS.F ht⟩) hS.2.2 d_L_open_11
  · have hG : G_L_open M = (1, M) := by rw [G_L_open, if_neg (by rw [hT]; decide)]
    refine xt_catchV (hpc := 7) (As := []) (rest := []) ⟨hx, hb, hml, hown, hts⟩ (t2_U_open l dC dI Z A _ M htl hT) (cwV 0 hts (xw_V _ tw_513 tw_514 tw_515 tw_1 tw_516) rfl rfl rfl (by decide +kernel) ⟨Nat.le_of_ble_eq_true rfl, Nat.le_of_ble_eq_true rfl⟩) ⟨xBs_blind, va_recv (q0 := 0) (ci := 9) hK hP rfl rfl, fun U hU hW => ⟨rfl, xBs_at hPc hK hDc hq hs U hU hW⟩⟩ rfl hl.1 rfl (Nat.le_of_ble_eq_true rfl) d_L_open_1 ⟨Nat.le_of_ble_eq_true rfl, Nat.le_of_ble_eq_true rfl⟩ (fun pl hpl th hth => by
        rw [htab]
        exact xr_hit hpl hown (by decide) (by decide) (htt (.classLink "CentrifugeUnitLaw" 15 "java/lang/IllegalStateException") tw_337) (hq.2.2 (.castable "java/lang/IllegalStateException" "java/lang/IllegalStateException") (by decide +kernel)) hth rfl) (fun xa H1 hz ho => ?_)
    refine lv_astore_n (lv' := [(1, .ref xa), (0, .ref (A 0))]) hx hb d_L_open_7 rfl hl (by decide) rfl (fun ls hl => ?_)
    refine lv_iconst (v := 1) hx hb d_L_open_8 (by decide) ?_
    have hP9 : va_P (dC, dI) xcl [(A 0, xc0 Z A M), (A 17, xc17 Z A M), (A 18, xc18 Z A M), (A 12, xc12 Z A M)] H1 := xP_kept hP ho
    have hS := xS_kept hS hz ho
    exact W.iret hx hb hr (fun t ht hW => ⟨⟨1, M, rfl, hG.symm, xE_at hP9 hK hD ht hW⟩, hS.F ht⟩) hS.2.2 d_L_open_9
abbrev bc_L_chamber : ByteArray := method_10_code
def y_L_chamber : MethodName := ⟨"CentrifugeUnitLaw", "chamber", "(LCentrifugeUnit;I)I"⟩
def G_L_chamber (M : XM) (a1 : Int32) : Int32 × XM := (if T_U_chamber M a1 = 0 then (0, (ap_U_chamber M (F_U_chamber M a1))) else (1, M))
theorem tc_L_chamber (M : XM) (a1 : Int32) : T_U_chamber M a1 = 0 ∨ T_U_chamber M a1 = 1 := by
  simp only [T_U_chamber_k1, T_U_chamber]; repeat' split
  all_goals simp
theorem d_L_chamber_0 : decode bc_L_chamber 0 = .ok (.aload_n 0, 1) := by decide +kernel
theorem d_L_chamber_1 : decode bc_L_chamber 1 = .ok (.iload_n 1, 1) := by decide +kernel
theorem d_L_chamber_2 : decode bc_L_chamber 2 = .ok (.invokevirtual 37, 3) := by decide +kernel
theorem d_L_chamber_5 : decode bc_L_chamber 5 = .ok (.goto 6, 3) := by decide +kernel
theorem d_L_chamber_8 : decode bc_L_chamber 8 = .ok (.astore_n 2, 1) := by decide +kernel
theorem d_L_chamber_9 : decode bc_L_chamber 9 = .ok (.iconst 1, 1) := by decide +kernel
theorem d_L_chamber_10 : decode bc_L_chamber 10 = .ok (.ireturn, 1) := by decide +kernel
theorem d_L_chamber_11 : decode bc_L_chamber 11 = .ok (.iconst 0, 1) := by decide +kernel
theorem d_L_chamber_12 : decode bc_L_chamber 12 = .ok (.ireturn, 1) := by decide +kernel
set_option maxHeartbeats 4000000 in
set_option maxRecDepth 100000 in
theorem c_L_chamber (l : Launch) (htl : l.stackTraces = false) (dC : Nat → ClassId) (dI : Nat → Nat → Nat) (Z : Nat → ClassId) (A : Nat → Nat) (sz : Nat) (M : XM) (a1 : Int32) : Met l y_L_chamber (.codeWith y_L_chamber bc_L_chamber 3 (some .int) [(0, 5, 8, 13)] :: xw) ({ frames := 7, cells := 1, slots := 6, locals := 111 }) (va_Pc [.ref (A 0), .int a1] (xBs (dC, dI) xcl (xty Z) sz [(A 0, xc0 Z A M), (A 17, xc17 Z A M)])) (va_Qi (fun (r : Int32) (N : XM) => (r, N) = G_L_chamber M a1) (fun N => xE (dC, dI) xcl (xty Z) (va_A [(A 0, xc0 Z A M), (A 17, xc17 Z A M)] sz) [(A 0, xc0 Z A N), (A 17, xc17 Z A N)]) (va_A [(A 0, xc0 Z A M), (A 17, xc17 Z A M)] sz)) 1 6 (va_A [(A 0, xc0 Z A M), (A 17, xc17 Z A M)] sz) := by
  refine va_MetW (cc := bc_L_chamber) (maxL := 3) (ret := (some .int)) (hh := [(0, 5, 8, 13)]) (by decide) rfl ?_
  intro p e s m args below meth c s₁ B hml hv
  obtain ⟨rfl, ⟨hsz, hP, hK, hD0, hq⟩, hs⟩ := hv
  have hx := B.exec
  have hb := B.bytes
  have hr := B.returns
  have hts := atoms_spec (ws := (.codeWith y_L_chamber bc_L_chamber 3 (some .int) [(0, 5, 8, 13)] :: xw)) B.pre
  have htt : ∀ w ∈ xw, w.before _ s = true := fun w h => hts w (List.mem_cons_of_mem _ h)
  have hown : s.vm.findClass "CentrifugeUnitLaw" = some m.cls := findClass_of_methodNamed B.named
  have hlocks := B.notSynchronized
  have htab := xh_list (xh_table B (hts _ List.mem_cons_self))
  subst hsz
  have hD := hD0.self (sz := s.heap.size)
  generalize hAe : va_A [(A 0, xc0 Z A M), (A 17, xc17 Z A M)] s.heap.size = AA at hD ⊢
  have hA : ∀ q : Nat, s.heap.size ≤ q → AA q := fun q h => by rw [← hAe]; exact Or.inr h
  have hS : va_S AA s.heap s.heap [] := va_S.rf
  have hP : va_P (dC, dI) xcl [(A 0, .inr (9, [.ref (A 1), .ref (A 6), .ref (A 10), .ref (A 11), .ref (A 12), .ref (A 13), .ref (A 17)])), (A 17, .inr (0, [.ref (A 1), .ref (A 6), .ref (A 11), .ref (A 12), .ref (A 13), .ref (A 18), .ref (A 19), .int (M.1 12), .int (M.1 13), .int (M.1 14), .int (M.1 15), .int (M.1 16), .int (M.1 17), .int (M.1 18)]))] s.heap := hP
  have hD : va_D AA [(A 0, .inr (9, [.ref (A 1), .ref (A 6), .ref (A 10), .ref (A 11), .ref (A 12), .ref (A 13), .ref (A 17)])), (A 17, .inr (0, [.ref (A 1), .ref (A 6), .ref (A 11), .ref (A 12), .ref (A 13), .ref (A 18), .ref (A 19), .int (M.1 12), .int (M.1 13), .int (M.1 14), .int (M.1 15), .int (M.1 16), .int (M.1 17), .int (M.1 18)]))] := hD
  have hl := lv_entry ([.ref (A 0), .int a1]) (n := 3) (Nat.le_of_ble_eq_true rfl)
  rw [lg_entry_eq]
  generalize (lg_sl ([.ref (A 0), .int a1]) ++ List.replicate (3 - (lg_sl ([.ref (A 0), .int a1])).length) Slot.unset).toArray = ls at hl ⊢
  have hl : lv_has ls 3 [(0, .ref (A 0)), (1, .int a1)] := hl
  have hPc := hP.sub (ws' := [(A 0, xc0 Z A M), (A 17, xc17 Z A M)]) [0, 1] rfl
  have hDc := hD.sub (ws' := [(A 0, xc0 Z A M), (A 17, xc17 Z A M)]) [0, 1] (by decide) rfl
  refine lv_aload_n hx hb d_L_chamber_0 rfl (lv_at hl 0 rfl) ?_
  refine lv_iload_n hx hb d_L_chamber_1 rfl (lv_at hl 1 rfl) ?_
  rcases tc_L_chamber M a1 with hT | hT
  · have hG : G_L_chamber M a1 = (0, (ap_U_chamber M (F_U_chamber M a1))) := by rw [G_L_chamber, if_pos hT]
    refine xk_v (wc := [(A 0, xc0 Z A M), (A 17, xc17 Z A M)]) (wr := []) (va_runV (As := [.int a1]) (rest := []) ⟨hx, hb, hml, hown, hts⟩ (c_U_chamber l dC dI Z A _ M a1 hT) (cwV 1 hts (xw_V _ tw_539 tw_540 tw_541 tw_1 tw_542) rfl rfl rfl (by decide +kernel) ⟨Nat.le_of_ble_eq_true rfl, Nat.le_of_ble_eq_true rfl⟩) ⟨xB_blind, va_recv (q0 := 0) (ci := 9) hK hP rfl rfl, fun U hU hW => ⟨rfl, xB_at hPc hK hDc hq U hU hW⟩⟩ rfl rfl hl.1 rfl (lv_room (Nat.le_of_ble_eq_true rfl)) d_L_chamber_2 ⟨Nat.le_of_ble_eq_true rfl, Nat.le_of_ble_eq_true rfl⟩) hP hD hS hA [0, 1] [] rfl rfl (by decide) (by decide) (fun u H locs hu hP hD hS => ?_)
    subst hu
    have hP : va_P (dC, dI) xcl [(A 0, xc0 Z A (ap_U_chamber M (F_U_chamber M a1))), (A 17, xc17 Z A (ap_U_chamber M (F_U_chamber M a1)))] H := hP
    have hD : va_D AA [(A 0, xc0 Z A (ap_U_chamber M (F_U_chamber M a1))), (A 17, xc17 Z A (ap_U_chamber M (F_U_chamber M a1)))] := hD
    refine lv_goto (tgt := 11) hx hb d_L_chamber_5 rfl ?_
    refine lv_iconst (v := 0) hx hb d_L_chamber_11 (by decide) ?_
    have hP9 := hP.sub (ws' := [(A 0, xc0 Z A (ap_U_chamber M (F_U_chamber M a1))), (A 17, xc17 Z A (ap_U_chamber M (F_U_chamber M a1)))]) [0, 1] rfl
    have hD9 := hD.sub (ws' := [(A 0, xc0 Z A (ap_U_chamber M (F_U_chamber M a1))), (A 17, xc17 Z A (ap_U_chamber M (F_U_chamber M a1)))]) [0, 1] (by decide) rfl
    refine W.widen (k := 1) (n := 6) (by decide) (by decide) ?_
    exact W.iret hx hb hr (fun t ht hW => ⟨⟨0, (ap_U_chamber M (F_U_chamber M a1)), rfl, hG.symm, xE_at hP9 hK hD9 ht hW⟩, hS.F ht⟩) hS.2.2 d_L_chamber_12
  · have hG : G_L_chamber M a1 = (1, M) := by rw [G_L_chamber, if_neg (by rw [hT]; decide)]
    refine xt_catchV (hpc := 8) (As := [.int a1]) (rest := []) ⟨hx, hb, hml, hown, hts⟩ (t1_U_chamber l dC dI Z A _ M a1 htl hT) (cwV 1 hts (xw_V _ tw_539 tw_540 tw_541 tw_1 tw_542) rfl rfl rfl (by decide +kernel) ⟨Nat.le_of_ble_eq_true rfl, Nat.le_of_ble_eq_true rfl⟩) ⟨xBs_blind, va_recv (q0 := 0) (ci := 9) hK hP rfl rfl, fun U hU hW => ⟨rfl, xBs_at hPc hK hDc hq hs U hU hW⟩⟩ rfl hl.1 rfl (Nat.le_of_ble_eq_true rfl) d_L_chamber_2 ⟨Nat.le_of_ble_eq_true rfl, Nat.le_of_ble_eq_true rfl⟩ (fun pl hpl th hth => by
        rw [htab]
        exact xr_hit hpl hown (by decide) (by decide) (htt (.classLink "CentrifugeUnitLaw" 13 "java/lang/IllegalArgumentException") tw_336) (hq.2.2 (.castable "java/lang/IllegalArgumentException" "java/lang/IllegalArgumentException") (by decide +kernel)) hth rfl) (fun xa H1 hz ho => ?_)
    refine lv_astore_n (lv' := [(2, .ref xa), (0, .ref (A 0)), (1, .int a1)]) hx hb d_L_chamber_8 rfl hl (by decide) rfl (fun ls hl => ?_)
    refine lv_iconst (v := 1) hx hb d_L_chamber_9 (by decide) ?_
    have hP9 : va_P (dC, dI) xcl [(A 0, xc0 Z A M), (A 17, xc17 Z A M)] H1 := xP_kept hP ho
    have hS := xS_kept hS hz ho
    exact W.iret hx hb hr (fun t ht hW => ⟨⟨1, M, rfl, hG.symm, xE_at hP9 hK hD ht hW⟩, hS.F ht⟩) hS.2.2 d_L_chamber_10
abbrev bc_L_fail : ByteArray := method_11_code
def y_L_fail : MethodName := ⟨"CentrifugeUnitLaw", "fail", "(LCentrifugeUnit;II)I"⟩
def G_L_fail (M : XM) (a1 : Int32) (a2 : Int32) : Int32 × XM := (if T_U_fail M a1 a2 = 0 then (0, (ap_U_fail M (F_U_fail M a1 a2))) else (1, M))
theorem tc_L_fail (M : XM) (a1 : Int32) (a2 : Int32) : T_U_fail M a1 a2 = 0 ∨ T_U_fail M a1 a2 = 1 := by
  simp only [T_U_fail_k2, T_U_fail_k1, T_U_fail]; repeat' split
  all_goals simp
theorem d_L_fail_0 : decode bc_L_fail 0 = .ok (.aload_n 0, 1) := by decide +kernel
theorem d_L_fail_1 : decode bc_L_fail 1 = .ok (.iload_n 1, 1) := by decide +kernel
theorem d_L_fail_2 : decode bc_L_fail 2 = .ok (.iload_n 2, 1) := by decide +kernel
theorem d_L_fail_3 : decode bc_L_fail 3 = .ok (.invokevirtual 40, 3) := by decide +kernel
theorem d_L_fail_6 : decode bc_L_fail 6 = .ok (.goto 6, 3) := by decide +kernel
theorem d_L_fail_9 : decode bc_L_fail 9 = .ok (.astore_n 3, 1) := by decide +kernel
theorem d_L_fail_10 : decode bc_L_fail 10 = .ok (.iconst 1, 1) := by decide +kernel
theorem d_L_fail_11 : decode bc_L_fail 11 = .ok (.ireturn, 1) := by decide +kernel
theorem d_L_fail_12 : decode bc_L_fail 12 = .ok (.iconst 0, 1) := by decide +kernel
theorem d_L_fail_13 : decode bc_L_fail 13 = .ok (.ireturn, 1) := by decide +kernel
set_option maxHeartbeats 4000000 in
set_option maxRecDepth 100000 in
theorem c_L_fail (l : Launch) (htl : l.stackTraces = false) (dC : Nat → ClassId) (dI : Nat → Nat → Nat) (Z : Nat → ClassId) (A : Nat → Nat) (sz : Nat) (M : XM) (a1 : Int32) (a2 : Int32) : Met l y_L_fail (.codeWith y_L_fail bc_L_fail 4 (some .int) [(0, 6, 9, 13)] :: xw) ({ frames := 7, cells := 1, slots := 6, locals := 112 }) (va_Pc [.ref (A 0), .int a1, .int a2] (xBs (dC, dI) xcl (xty Z) sz [(A 0, xc0 Z A M), (A 11, xc11 Z A M)])) (va_Qi (fun (r : Int32) (N : XM) => (r, N) = G_L_fail M a1 a2) (fun N => xE (dC, dI) xcl (xty Z) (va_A [(A 0, xc0 Z A M), (A 11, xc11 Z A M)] sz) [(A 0, xc0 Z A N), (A 11, xc11 Z A N)]) (va_A [(A 0, xc0 Z A M), (A 11, xc11 Z A M)] sz)) 1 6 (va_A [(A 0, xc0 Z A M), (A 11, xc11 Z A M)] sz) := by
  refine va_MetW (cc := bc_L_fail) (maxL := 4) (ret := (some .int)) (hh := [(0, 6, 9, 13)]) (by decide) rfl ?_
  intro p e s m args below meth c s₁ B hml hv
  obtain ⟨rfl, ⟨hsz, hP, hK, hD0, hq⟩, hs⟩ := hv
  have hx := B.exec
  have hb := B.bytes
  have hr := B.returns
  have hts := atoms_spec (ws := (.codeWith y_L_fail bc_L_fail 4 (some .int) [(0, 6, 9, 13)] :: xw)) B.pre
  have htt : ∀ w ∈ xw, w.before _ s = true := fun w h => hts w (List.mem_cons_of_mem _ h)
  have hown : s.vm.findClass "CentrifugeUnitLaw" = some m.cls := findClass_of_methodNamed B.named
  have hlocks := B.notSynchronized
  have htab := xh_list (xh_table B (hts _ List.mem_cons_self))
  subst hsz
  have hD := hD0.self (sz := s.heap.size)
  generalize hAe : va_A [(A 0, xc0 Z A M), (A 11, xc11 Z A M)] s.heap.size = AA at hD ⊢
  have hA : ∀ q : Nat, s.heap.size ≤ q → AA q := fun q h => by rw [← hAe]; exact Or.inr h
  have hS : va_S AA s.heap s.heap [] := va_S.rf
  have hP : va_P (dC, dI) xcl [(A 0, .inr (9, [.ref (A 1), .ref (A 6), .ref (A 10), .ref (A 11), .ref (A 12), .ref (A 13), .ref (A 17)])), (A 11, .inr (7, [.int (M.1 2), .int (M.1 3), .int (M.1 4), .int (M.1 5), .int (M.1 6), .int (M.1 7)]))] s.heap := hP
  have hD : va_D AA [(A 0, .inr (9, [.ref (A 1), .ref (A 6), .ref (A 10), .ref (A 11), .ref (A 12), .ref (A 13), .ref (A 17)])), (A 11, .inr (7, [.int (M.1 2), .int (M.1 3), .int (M.1 4), .int (M.1 5), .int (M.1 6), .int (M.1 7)]))] := hD
  have hl := lv_entry ([.ref (A 0), .int a1, .int a2]) (n := 4) (Nat.le_of_ble_eq_true rfl)
  rw [lg_entry_eq]
  generalize (lg_sl ([.ref (A 0), .int a1, .int a2]) ++ List.replicate (4 - (lg_sl ([.ref (A 0), .int a1, .int a2])).length) Slot.unset).toArray = ls at hl ⊢
  have hl : lv_has ls 4 [(0, .ref (A 0)), (1, .int a1), (2, .int a2)] := hl
  have hPc := hP.sub (ws' := [(A 0, xc0 Z A M), (A 11, xc11 Z A M)]) [0, 1] rfl
  have hDc := hD.sub (ws' := [(A 0, xc0 Z A M), (A 11, xc11 Z A M)]) [0, 1] (by decide) rfl
  refine lv_aload_n hx hb d_L_fail_0 rfl (lv_at hl 0 rfl) ?_
  refine lv_iload_n hx hb d_L_fail_1 rfl (lv_at hl 1 rfl) ?_
  refine lv_iload_n hx hb d_L_fail_2 rfl (lv_at hl 2 rfl) ?_
  rcases tc_L_fail M a1 a2 with hT | hT
  · have hG : G_L_fail M a1 a2 = (0, (ap_U_fail M (F_U_fail M a1 a2))) := by rw [G_L_fail, if_pos hT]
    refine xk_v (wc := [(A 0, xc0 Z A M), (A 11, xc11 Z A M)]) (wr := []) (va_runV (As := [.int a1, .int a2]) (rest := []) ⟨hx, hb, hml, hown, hts⟩ (c_U_fail l dC dI Z A _ M a1 a2 hT) (cwV 2 hts (xw_V _ tw_547 tw_548 tw_549 tw_1 tw_550) rfl rfl rfl (by decide +kernel) ⟨Nat.le_of_ble_eq_true rfl, Nat.le_of_ble_eq_true rfl⟩) ⟨xB_blind, va_recv (q0 := 0) (ci := 9) hK hP rfl rfl, fun U hU hW => ⟨rfl, xB_at hPc hK hDc hq U hU hW⟩⟩ rfl rfl hl.1 rfl (lv_room (Nat.le_of_ble_eq_true rfl)) d_L_fail_3 ⟨Nat.le_of_ble_eq_true rfl, Nat.le_of_ble_eq_true rfl⟩) hP hD hS hA [0, 1] [] rfl rfl (by decide) (by decide) (fun u H locs hu hP hD hS => ?_)
    subst hu
    have hP : va_P (dC, dI) xcl [(A 0, xc0 Z A (ap_U_fail M (F_U_fail M a1 a2))), (A 11, xc11 Z A (ap_U_fail M (F_U_fail M a1 a2)))] H := hP
    have hD : va_D AA [(A 0, xc0 Z A (ap_U_fail M (F_U_fail M a1 a2))), (A 11, xc11 Z A (ap_U_fail M (F_U_fail M a1 a2)))] := hD
    refine lv_goto (tgt := 12) hx hb d_L_fail_6 rfl ?_
    refine lv_iconst (v := 0) hx hb d_L_fail_12 (by decide) ?_
    have hP9 := hP.sub (ws' := [(A 0, xc0 Z A (ap_U_fail M (F_U_fail M a1 a2))), (A 11, xc11 Z A (ap_U_fail M (F_U_fail M a1 a2)))]) [0, 1] rfl
    have hD9 := hD.sub (ws' := [(A 0, xc0 Z A (ap_U_fail M (F_U_fail M a1 a2))), (A 11, xc11 Z A (ap_U_fail M (F_U_fail M a1 a2)))]) [0, 1] (by decide) rfl
    refine W.widen (k := 1) (n := 6) (by decide) (by decide) ?_
    exact W.iret hx hb hr (fun t ht hW => ⟨⟨0, (ap_U_fail M (F_U_fail M a1 a2)), rfl, hG.symm, xE_at hP9 hK hD9 ht hW⟩, hS.F ht⟩) hS.2.2 d_L_fail_13
  · have hG : G_L_fail M a1 a2 = (1, M) := by rw [G_L_fail, if_neg (by rw [hT]; decide)]
    refine xt_catchV (hpc := 9) (As := [.int a1, .int a2]) (rest := []) ⟨hx, hb, hml, hown, hts⟩ (t1_U_fail l dC dI Z A _ M a1 a2 htl hT) (cwV 2 hts (xw_V _ tw_547 tw_548 tw_549 tw_1 tw_550) rfl rfl rfl (by decide +kernel) ⟨Nat.le_of_ble_eq_true rfl, Nat.le_of_ble_eq_true rfl⟩) ⟨xBs_blind, va_recv (q0 := 0) (ci := 9) hK hP rfl rfl, fun U hU hW => ⟨rfl, xBs_at hPc hK hDc hq hs U hU hW⟩⟩ rfl hl.1 rfl (Nat.le_of_ble_eq_true rfl) d_L_fail_3 ⟨Nat.le_of_ble_eq_true rfl, Nat.le_of_ble_eq_true rfl⟩ (fun pl hpl th hth => by
        rw [htab]
        exact xr_hit hpl hown (by decide) (by decide) (htt (.classLink "CentrifugeUnitLaw" 13 "java/lang/IllegalArgumentException") tw_336) (hq.2.2 (.castable "java/lang/IllegalArgumentException" "java/lang/IllegalArgumentException") (by decide +kernel)) hth rfl) (fun xa H1 hz ho => ?_)
    refine lv_astore_n (lv' := [(3, .ref xa), (0, .ref (A 0)), (1, .int a1), (2, .int a2)]) hx hb d_L_fail_9 rfl hl (by decide) rfl (fun ls hl => ?_)
    refine lv_iconst (v := 1) hx hb d_L_fail_10 (by decide) ?_
    have hP9 : va_P (dC, dI) xcl [(A 0, xc0 Z A M), (A 11, xc11 Z A M)] H1 := xP_kept hP ho
    have hS := xS_kept hS hz ho
    exact W.iret hx hb hr (fun t ht hW => ⟨⟨1, M, rfl, hG.symm, xE_at hP9 hK hD ht hW⟩, hS.F ht⟩) hS.2.2 d_L_fail_11
abbrev bc_L_power : ByteArray := method_12_code
def y_L_power : MethodName := ⟨"CentrifugeUnitLaw", "power", "(LCentrifugeUnit;Z)I"⟩
def G_L_power (M : XM) (a1 : Int32) : Int32 × XM := (if T_U_power M a1 = 0 then (0, (ap_U_power M (F_U_power M a1))) else (1, M))
theorem tc_L_power (M : XM) (a1 : Int32) : T_U_power M a1 = 0 ∨ T_U_power M a1 = 2 := by
  simp only [T_U_power]; repeat' split
  all_goals simp
theorem d_L_power_0 : decode bc_L_power 0 = .ok (.aload_n 0, 1) := by decide +kernel
theorem d_L_power_1 : decode bc_L_power 1 = .ok (.iload_n 1, 1) := by decide +kernel
theorem d_L_power_2 : decode bc_L_power 2 = .ok (.invokevirtual 44, 3) := by decide +kernel
theorem d_L_power_5 : decode bc_L_power 5 = .ok (.goto 6, 3) := by decide +kernel
theorem d_L_power_8 : decode bc_L_power 8 = .ok (.astore_n 2, 1) := by decide +kernel
theorem d_L_power_9 : decode bc_L_power 9 = .ok (.iconst 1, 1) := by decide +kernel
theorem d_L_power_10 : decode bc_L_power 10 = .ok (.ireturn, 1) := by decide +kernel
theorem d_L_power_11 : decode bc_L_power 11 = .ok (.iconst 0, 1) := by decide +kernel
theorem d_L_power_12 : decode bc_L_power 12 = .ok (.ireturn, 1) := by decide +kernel
set_option maxHeartbeats 4000000 in
set_option maxRecDepth 100000 in
theorem c_L_power (l : Launch) (htl : l.stackTraces = false) (dC : Nat → ClassId) (dI : Nat → Nat → Nat) (Z : Nat → ClassId) (A : Nat → Nat) (sz : Nat) (M : XM) (a1 : Int32) : Met l y_L_power (.codeWith y_L_power bc_L_power 3 (some .int) [(0, 5, 8, 15)] :: xw) ({ frames := 7, cells := 1, slots := 6, locals := 111 }) (va_Pc [.ref (A 0), .int a1] (xBs (dC, dI) xcl (xty Z) sz [(A 0, xc0 Z A M), (A 17, xc17 Z A M), (A 18, xc18 Z A M)])) (va_Qi (fun (r : Int32) (N : XM) => (r, N) = G_L_power M a1) (fun N => xE (dC, dI) xcl (xty Z) (va_A [(A 0, xc0 Z A M), (A 17, xc17 Z A M), (A 18, xc18 Z A M)] sz) [(A 0, xc0 Z A N), (A 17, xc17 Z A N), (A 18, xc18 Z A N)]) (va_A [(A 0, xc0 Z A M), (A 17, xc17 Z A M), (A 18, xc18 Z A M)] sz)) 1 6 (va_A [(A 0, xc0 Z A M), (A 17, xc17 Z A M), (A 18, xc18 Z A M)] sz) := by
  refine va_MetW (cc := bc_L_power) (maxL := 3) (ret := (some .int)) (hh := [(0, 5, 8, 15)]) (by decide) rfl ?_
  intro p e s m args below meth c s₁ B hml hv
  obtain ⟨rfl, ⟨hsz, hP, hK, hD0, hq⟩, hs⟩ := hv
  have hx := B.exec
  have hb := B.bytes
  have hr := B.returns
  have hts := atoms_spec (ws := (.codeWith y_L_power bc_L_power 3 (some .int) [(0, 5, 8, 15)] :: xw)) B.pre
  have htt : ∀ w ∈ xw, w.before _ s = true := fun w h => hts w (List.mem_cons_of_mem _ h)
  have hown : s.vm.findClass "CentrifugeUnitLaw" = some m.cls := findClass_of_methodNamed B.named
  have hlocks := B.notSynchronized
  have htab := xh_list (xh_table B (hts _ List.mem_cons_self))
  subst hsz
  have hD := hD0.self (sz := s.heap.size)
  generalize hAe : va_A [(A 0, xc0 Z A M), (A 17, xc17 Z A M), (A 18, xc18 Z A M)] s.heap.size = AA at hD ⊢
  have hA : ∀ q : Nat, s.heap.size ≤ q → AA q := fun q h => by rw [← hAe]; exact Or.inr h
  have hS : va_S AA s.heap s.heap [] := va_S.rf
  have hP : va_P (dC, dI) xcl [(A 0, .inr (9, [.ref (A 1), .ref (A 6), .ref (A 10), .ref (A 11), .ref (A 12), .ref (A 13), .ref (A 17)])), (A 17, .inr (0, [.ref (A 1), .ref (A 6), .ref (A 11), .ref (A 12), .ref (A 13), .ref (A 18), .ref (A 19), .int (M.1 12), .int (M.1 13), .int (M.1 14), .int (M.1 15), .int (M.1 16), .int (M.1 17), .int (M.1 18)])), (A 18, .inr (8, [.int (M.1 19), .int (M.1 20), .int (M.1 21), .int (M.1 22)]))] s.heap := hP
  have hD : va_D AA [(A 0, .inr (9, [.ref (A 1), .ref (A 6), .ref (A 10), .ref (A 11), .ref (A 12), .ref (A 13), .ref (A 17)])), (A 17, .inr (0, [.ref (A 1), .ref (A 6), .ref (A 11), .ref (A 12), .ref (A 13), .ref (A 18), .ref (A 19), .int (M.1 12), .int (M.1 13), .int (M.1 14), .int (M.1 15), .int (M.1 16), .int (M.1 17), .int (M.1 18)])), (A 18, .inr (8, [.int (M.1 19), .int (M.1 20), .int (M.1 21), .int (M.1 22)]))] := hD
  have hl := lv_entry ([.ref (A 0), .int a1]) (n := 3) (Nat.le_of_ble_eq_true rfl)
  rw [lg_entry_eq]
  generalize (lg_sl ([.ref (A 0), .int a1]) ++ List.replicate (3 - (lg_sl ([.ref (A 0), .int a1])).length) Slot.unset).toArray = ls at hl ⊢
  have hl : lv_has ls 3 [(0, .ref (A 0)), (1, .int a1)] := hl
  have hPc := hP.sub (ws' := [(A 0, xc0 Z A M), (A 17, xc17 Z A M), (A 18, xc18 Z A M)]) [0, 1, 2] rfl
  have hDc := hD.sub (ws' := [(A 0, xc0 Z A M), (A 17, xc17 Z A M), (A 18, xc18 Z A M)]) [0, 1, 2] (by decide) rfl
  refine lv_aload_n hx hb d_L_power_0 rfl (lv_at hl 0 rfl) ?_
  refine lv_iload_n hx hb d_L_power_1 rfl (lv_at hl 1 rfl) ?_
  rcases tc_L_power M a1 with hT | hT
  · have hG : G_L_power M a1 = (0, (ap_U_power M (F_U_power M a1))) := by rw [G_L_power, if_pos hT]
    refine xk_v (wc := [(A 0, xc0 Z A M), (A 17, xc17 Z A M), (A 18, xc18 Z A M)]) (wr := []) (va_runV (As := [.int a1]) (rest := []) ⟨hx, hb, hml, hown, hts⟩ (c_U_power l dC dI Z A _ M a1 hT) (cwV 1 hts (xw_V _ tw_556 tw_557 tw_558 tw_1 tw_559) rfl rfl rfl (by decide +kernel) ⟨Nat.le_of_ble_eq_true rfl, Nat.le_of_ble_eq_true rfl⟩) ⟨xB_blind, va_recv (q0 := 0) (ci := 9) hK hP rfl rfl, fun U hU hW => ⟨rfl, xB_at hPc hK hDc hq U hU hW⟩⟩ rfl rfl hl.1 rfl (lv_room (Nat.le_of_ble_eq_true rfl)) d_L_power_2 ⟨Nat.le_of_ble_eq_true rfl, Nat.le_of_ble_eq_true rfl⟩) hP hD hS hA [0, 1, 2] [] rfl rfl (by decide) (by decide) (fun u H locs hu hP hD hS => ?_)
    subst hu
    have hP : va_P (dC, dI) xcl [(A 0, xc0 Z A (ap_U_power M (F_U_power M a1))), (A 17, xc17 Z A (ap_U_power M (F_U_power M a1))), (A 18, xc18 Z A (ap_U_power M (F_U_power M a1)))] H := hP
    have hD : va_D AA [(A 0, xc0 Z A (ap_U_power M (F_U_power M a1))), (A 17, xc17 Z A (ap_U_power M (F_U_power M a1))), (A 18, xc18 Z A (ap_U_power M (F_U_power M a1)))] := hD
    refine lv_goto (tgt := 11) hx hb d_L_power_5 rfl ?_
    refine lv_iconst (v := 0) hx hb d_L_power_11 (by decide) ?_
    have hP9 := hP.sub (ws' := [(A 0, xc0 Z A (ap_U_power M (F_U_power M a1))), (A 17, xc17 Z A (ap_U_power M (F_U_power M a1))), (A 18, xc18 Z A (ap_U_power M (F_U_power M a1)))]) [0, 1, 2] rfl
    have hD9 := hD.sub (ws' := [(A 0, xc0 Z A (ap_U_power M (F_U_power M a1))), (A 17, xc17 Z A (ap_U_power M (F_U_power M a1))), (A 18, xc18 Z A (ap_U_power M (F_U_power M a1)))]) [0, 1, 2] (by decide) rfl
    refine W.widen (k := 1) (n := 6) (by decide) (by decide) ?_
    exact W.iret hx hb hr (fun t ht hW => ⟨⟨0, (ap_U_power M (F_U_power M a1)), rfl, hG.symm, xE_at hP9 hK hD9 ht hW⟩, hS.F ht⟩) hS.2.2 d_L_power_12
  · have hG : G_L_power M a1 = (1, M) := by rw [G_L_power, if_neg (by rw [hT]; decide)]
    refine xt_catchV (hpc := 8) (As := [.int a1]) (rest := []) ⟨hx, hb, hml, hown, hts⟩ (t2_U_power l dC dI Z A _ M a1 htl hT) (cwV 1 hts (xw_V _ tw_556 tw_557 tw_558 tw_1 tw_559) rfl rfl rfl (by decide +kernel) ⟨Nat.le_of_ble_eq_true rfl, Nat.le_of_ble_eq_true rfl⟩) ⟨xBs_blind, va_recv (q0 := 0) (ci := 9) hK hP rfl rfl, fun U hU hW => ⟨rfl, xBs_at hPc hK hDc hq hs U hU hW⟩⟩ rfl hl.1 rfl (Nat.le_of_ble_eq_true rfl) d_L_power_2 ⟨Nat.le_of_ble_eq_true rfl, Nat.le_of_ble_eq_true rfl⟩ (fun pl hpl th hth => by
        rw [htab]
        exact xr_hit hpl hown (by decide) (by decide) (htt (.classLink "CentrifugeUnitLaw" 15 "java/lang/IllegalStateException") tw_337) (hq.2.2 (.castable "java/lang/IllegalStateException" "java/lang/IllegalStateException") (by decide +kernel)) hth rfl) (fun xa H1 hz ho => ?_)
    refine lv_astore_n (lv' := [(2, .ref xa), (0, .ref (A 0)), (1, .int a1)]) hx hb d_L_power_8 rfl hl (by decide) rfl (fun ls hl => ?_)
    refine lv_iconst (v := 1) hx hb d_L_power_9 (by decide) ?_
    have hP9 : va_P (dC, dI) xcl [(A 0, xc0 Z A M), (A 17, xc17 Z A M), (A 18, xc18 Z A M)] H1 := xP_kept hP ho
    have hS := xS_kept hS hz ho
    exact W.iret hx hb hr (fun t ht hW => ⟨⟨1, M, rfl, hG.symm, xE_at hP9 hK hD ht hW⟩, hS.F ht⟩) hS.2.2 d_L_power_10
abbrev bc_L_rotor : ByteArray := method_3_code
def y_L_rotor : MethodName := ⟨"CentrifugeUnitLaw", "rotor", "(LCentrifugeUnit;IIIII)I"⟩
def G_L_rotor (M : XM) (a1 : Int32) (a2 : Int32) (a3 : Int32) (a4 : Int32) (a5 : Int32) : Int32 × XM := (if T_U_rotor M a1 a2 a3 a4 a5 = 0 then (0, (ap_U_rotor M (F_U_rotor M a1 a2 a3 a4 a5))) else if T_U_rotor M a1 a2 a3 a4 a5 = 1 then (1, M) else (2, M))
theorem tc_L_rotor (M : XM) (a1 : Int32) (a2 : Int32) (a3 : Int32) (a4 : Int32) (a5 : Int32) : T_U_rotor M a1 a2 a3 a4 a5 = 0 ∨ T_U_rotor M a1 a2 a3 a4 a5 = 1 ∨ T_U_rotor M a1 a2 a3 a4 a5 = 2 := by
  simp only [T_U_rotor_k3, T_U_rotor_k2, T_U_rotor_k1, T_U_rotor]; repeat' split
  all_goals simp
theorem d_L_rotor_0 : decode bc_L_rotor 0 = .ok (.aload_n 0, 1) := by decide +kernel
theorem d_L_rotor_1 : decode bc_L_rotor 1 = .ok (.iload_n 1, 1) := by decide +kernel
theorem d_L_rotor_2 : decode bc_L_rotor 2 = .ok (.iload_n 2, 1) := by decide +kernel
theorem d_L_rotor_3 : decode bc_L_rotor 3 = .ok (.iload_n 3, 1) := by decide +kernel
theorem d_L_rotor_4 : decode bc_L_rotor 4 = .ok (.iload 4, 2) := by decide +kernel
theorem d_L_rotor_6 : decode bc_L_rotor 6 = .ok (.iload 5, 2) := by decide +kernel
theorem d_L_rotor_8 : decode bc_L_rotor 8 = .ok (.invokevirtual 7, 3) := by decide +kernel
theorem d_L_rotor_11 : decode bc_L_rotor 11 = .ok (.goto 11, 3) := by decide +kernel
theorem d_L_rotor_14 : decode bc_L_rotor 14 = .ok (.astore 6, 2) := by decide +kernel
theorem d_L_rotor_16 : decode bc_L_rotor 16 = .ok (.iconst 1, 1) := by decide +kernel
theorem d_L_rotor_17 : decode bc_L_rotor 17 = .ok (.ireturn, 1) := by decide +kernel
theorem d_L_rotor_18 : decode bc_L_rotor 18 = .ok (.astore 6, 2) := by decide +kernel
theorem d_L_rotor_20 : decode bc_L_rotor 20 = .ok (.iconst 2, 1) := by decide +kernel
theorem d_L_rotor_21 : decode bc_L_rotor 21 = .ok (.ireturn, 1) := by decide +kernel
theorem d_L_rotor_22 : decode bc_L_rotor 22 = .ok (.iconst 0, 1) := by decide +kernel
theorem d_L_rotor_23 : decode bc_L_rotor 23 = .ok (.ireturn, 1) := by decide +kernel
set_option maxHeartbeats 4000000 in
set_option maxRecDepth 100000 in
theorem c_L_rotor (l : Launch) (htl : l.stackTraces = false) (dC : Nat → ClassId) (dI : Nat → Nat → Nat) (Z : Nat → ClassId) (A : Nat → Nat) (sz : Nat) (M : XM) (a1 : Int32) (a2 : Int32) (a3 : Int32) (a4 : Int32) (a5 : Int32) : Met l y_L_rotor (.codeWith y_L_rotor bc_L_rotor 7 (some .int) [(0, 11, 14, 13), (0, 11, 18, 15)] :: xw) ({ frames := 7, cells := 1, slots := 6, locals := 115 }) (va_Pc [.ref (A 0), .int a1, .int a2, .int a3, .int a4, .int a5] (xBs (dC, dI) xcl (xty Z) sz [(A 0, xc0 Z A M), (A 1, xc1 Z A M), (A 2, xc2 Z A M), (A 3, xc3 Z A M), (A 4, xc4 Z A M), (A 5, xc5 Z A M), (A 17, xc17 Z A M)])) (va_Qi (fun (r : Int32) (N : XM) => (r, N) = G_L_rotor M a1 a2 a3 a4 a5) (fun N => xE (dC, dI) xcl (xty Z) (va_A [(A 0, xc0 Z A M), (A 1, xc1 Z A M), (A 2, xc2 Z A M), (A 3, xc3 Z A M), (A 4, xc4 Z A M), (A 5, xc5 Z A M), (A 17, xc17 Z A M)] sz) [(A 0, xc0 Z A N), (A 1, xc1 Z A N), (A 2, xc2 Z A N), (A 3, xc3 Z A N), (A 4, xc4 Z A N), (A 5, xc5 Z A N), (A 17, xc17 Z A N)]) (va_A [(A 0, xc0 Z A M), (A 1, xc1 Z A M), (A 2, xc2 Z A M), (A 3, xc3 Z A M), (A 4, xc4 Z A M), (A 5, xc5 Z A M), (A 17, xc17 Z A M)] sz)) 1 6 (va_A [(A 0, xc0 Z A M), (A 1, xc1 Z A M), (A 2, xc2 Z A M), (A 3, xc3 Z A M), (A 4, xc4 Z A M), (A 5, xc5 Z A M), (A 17, xc17 Z A M)] sz) := by
  refine va_MetW (cc := bc_L_rotor) (maxL := 7) (ret := (some .int)) (hh := [(0, 11, 14, 13), (0, 11, 18, 15)]) (by decide) rfl ?_
  intro p e s m args below meth c s₁ B hml hv
  obtain ⟨rfl, ⟨hsz, hP, hK, hD0, hq⟩, hs⟩ := hv
  have hx := B.exec
  have hb := B.bytes
  have hr := B.returns
  have hts := atoms_spec (ws := (.codeWith y_L_rotor bc_L_rotor 7 (some .int) [(0, 11, 14, 13), (0, 11, 18, 15)] :: xw)) B.pre
  have htt : ∀ w ∈ xw, w.before _ s = true := fun w h => hts w (List.mem_cons_of_mem _ h)
  have hown : s.vm.findClass "CentrifugeUnitLaw" = some m.cls := findClass_of_methodNamed B.named
  have hlocks := B.notSynchronized
  have htab := xh_list (xh_table B (hts _ List.mem_cons_self))
  subst hsz
  have hD := hD0.self (sz := s.heap.size)
  generalize hAe : va_A [(A 0, xc0 Z A M), (A 1, xc1 Z A M), (A 2, xc2 Z A M), (A 3, xc3 Z A M), (A 4, xc4 Z A M), (A 5, xc5 Z A M), (A 17, xc17 Z A M)] s.heap.size = AA at hD ⊢
  have hA : ∀ q : Nat, s.heap.size ≤ q → AA q := fun q h => by rw [← hAe]; exact Or.inr h
  have hS : va_S AA s.heap s.heap [] := va_S.rf
  have hP : va_P (dC, dI) xcl [(A 0, .inr (9, [.ref (A 1), .ref (A 6), .ref (A 10), .ref (A 11), .ref (A 12), .ref (A 13), .ref (A 17)])), (A 1, .inr (5, [.ref (A 2), .ref (A 3), .ref (A 4), .ref (A 5), .int (M.1 0)])), (A 2, .inl (Z 0, 4, .inl (M.2.2.1 2))), (A 3, .inl (Z 0, 4, .inl (M.2.2.1 3))), (A 4, .inl (Z 0, 4, .inl (M.2.2.1 4))), (A 5, .inl (Z 0, 4, .inl (M.2.2.1 5))), (A 17, .inr (0, [.ref (A 1), .ref (A 6), .ref (A 11), .ref (A 12), .ref (A 13), .ref (A 18), .ref (A 19), .int (M.1 12), .int (M.1 13), .int (M.1 14), .int (M.1 15), .int (M.1 16), .int (M.1 17), .int (M.1 18)]))] s.heap := hP
  have hD : va_D AA [(A 0, .inr (9, [.ref (A 1), .ref (A 6), .ref (A 10), .ref (A 11), .ref (A 12), .ref (A 13), .ref (A 17)])), (A 1, .inr (5, [.ref (A 2), .ref (A 3), .ref (A 4), .ref (A 5), .int (M.1 0)])), (A 2, .inl (Z 0, 4, .inl (M.2.2.1 2))), (A 3, .inl (Z 0, 4, .inl (M.2.2.1 3))), (A 4, .inl (Z 0, 4, .inl (M.2.2.1 4))), (A 5, .inl (Z 0, 4, .inl (M.2.2.1 5))), (A 17, .inr (0, [.ref (A 1), .ref (A 6), .ref (A 11), .ref (A 12), .ref (A 13), .ref (A 18), .ref (A 19), .int (M.1 12), .int (M.1 13), .int (M.1 14), .int (M.1 15), .int (M.1 16), .int (M.1 17), .int (M.1 18)]))] := hD
  have hl := lv_entry ([.ref (A 0), .int a1, .int a2, .int a3, .int a4, .int a5]) (n := 7) (Nat.le_of_ble_eq_true rfl)
  rw [lg_entry_eq]
  generalize (lg_sl ([.ref (A 0), .int a1, .int a2, .int a3, .int a4, .int a5]) ++ List.replicate (7 - (lg_sl ([.ref (A 0), .int a1, .int a2, .int a3, .int a4, .int a5])).length) Slot.unset).toArray = ls at hl ⊢
  have hl : lv_has ls 7 [(0, .ref (A 0)), (1, .int a1), (2, .int a2), (3, .int a3), (4, .int a4), (5, .int a5)] := hl
  have hPc := hP.sub (ws' := [(A 0, xc0 Z A M), (A 1, xc1 Z A M), (A 2, xc2 Z A M), (A 3, xc3 Z A M), (A 4, xc4 Z A M), (A 5, xc5 Z A M), (A 17, xc17 Z A M)]) [0, 1, 2, 3, 4, 5, 6] rfl
  have hDc := hD.sub (ws' := [(A 0, xc0 Z A M), (A 1, xc1 Z A M), (A 2, xc2 Z A M), (A 3, xc3 Z A M), (A 4, xc4 Z A M), (A 5, xc5 Z A M), (A 17, xc17 Z A M)]) [0, 1, 2, 3, 4, 5, 6] (by decide) rfl
  refine lv_aload_n hx hb d_L_rotor_0 rfl (lv_at hl 0 rfl) ?_
  refine lv_iload_n hx hb d_L_rotor_1 rfl (lv_at hl 1 rfl) ?_
  refine lv_iload_n hx hb d_L_rotor_2 rfl (lv_at hl 2 rfl) ?_
  refine lv_iload_n hx hb d_L_rotor_3 rfl (lv_at hl 3 rfl) ?_
  refine lv_iload hx hb d_L_rotor_4 (lv_at hl 4 rfl) ?_
  refine lv_iload hx hb d_L_rotor_6 (lv_at hl 5 rfl) ?_
  rcases tc_L_rotor M a1 a2 a3 a4 a5 with hT | hT | hT
  · have hG : G_L_rotor M a1 a2 a3 a4 a5 = (0, (ap_U_rotor M (F_U_rotor M a1 a2 a3 a4 a5))) := by rw [G_L_rotor, if_pos hT]
    refine xk_v (wc := [(A 0, xc0 Z A M), (A 1, xc1 Z A M), (A 2, xc2 Z A M), (A 3, xc3 Z A M), (A 4, xc4 Z A M), (A 5, xc5 Z A M), (A 17, xc17 Z A M)]) (wr := []) (va_runV (As := [.int a1, .int a2, .int a3, .int a4, .int a5]) (rest := []) ⟨hx, hb, hml, hown, hts⟩ (c_U_rotor l dC dI Z A _ M a1 a2 a3 a4 a5 hT) (cwV 5 hts (xw_V _ tw_338 tw_339 tw_340 tw_1 tw_341) rfl rfl rfl (by decide +kernel) ⟨Nat.le_of_ble_eq_true rfl, Nat.le_of_ble_eq_true rfl⟩) ⟨xB_blind, va_recv (q0 := 0) (ci := 9) hK hP rfl rfl, fun U hU hW => ⟨rfl, xB_at hPc hK hDc hq U hU hW⟩⟩ rfl rfl hl.1 rfl (lv_room (Nat.le_of_ble_eq_true rfl)) d_L_rotor_8 ⟨Nat.le_of_ble_eq_true rfl, Nat.le_of_ble_eq_true rfl⟩) hP hD hS hA [0, 1, 2, 3, 4, 5, 6] [] rfl rfl (by decide) (by decide) (fun u H locs hu hP hD hS => ?_)
    subst hu
    have hP : va_P (dC, dI) xcl [(A 0, xc0 Z A (ap_U_rotor M (F_U_rotor M a1 a2 a3 a4 a5))), (A 1, xc1 Z A (ap_U_rotor M (F_U_rotor M a1 a2 a3 a4 a5))), (A 2, xc2 Z A (ap_U_rotor M (F_U_rotor M a1 a2 a3 a4 a5))), (A 3, xc3 Z A (ap_U_rotor M (F_U_rotor M a1 a2 a3 a4 a5))), (A 4, xc4 Z A (ap_U_rotor M (F_U_rotor M a1 a2 a3 a4 a5))), (A 5, xc5 Z A (ap_U_rotor M (F_U_rotor M a1 a2 a3 a4 a5))), (A 17, xc17 Z A (ap_U_rotor M (F_U_rotor M a1 a2 a3 a4 a5)))] H := hP
    have hD : va_D AA [(A 0, xc0 Z A (ap_U_rotor M (F_U_rotor M a1 a2 a3 a4 a5))), (A 1, xc1 Z A (ap_U_rotor M (F_U_rotor M a1 a2 a3 a4 a5))), (A 2, xc2 Z A (ap_U_rotor M (F_U_rotor M a1 a2 a3 a4 a5))), (A 3, xc3 Z A (ap_U_rotor M (F_U_rotor M a1 a2 a3 a4 a5))), (A 4, xc4 Z A (ap_U_rotor M (F_U_rotor M a1 a2 a3 a4 a5))), (A 5, xc5 Z A (ap_U_rotor M (F_U_rotor M a1 a2 a3 a4 a5))), (A 17, xc17 Z A (ap_U_rotor M (F_U_rotor M a1 a2 a3 a4 a5)))] := hD
    refine lv_goto (tgt := 22) hx hb d_L_rotor_11 rfl ?_
    refine lv_iconst (v := 0) hx hb d_L_rotor_22 (by decide) ?_
    have hP9 := hP.sub (ws' := [(A 0, xc0 Z A (ap_U_rotor M (F_U_rotor M a1 a2 a3 a4 a5))), (A 1, xc1 Z A (ap_U_rotor M (F_U_rotor M a1 a2 a3 a4 a5))), (A 2, xc2 Z A (ap_U_rotor M (F_U_rotor M a1 a2 a3 a4 a5))), (A 3, xc3 Z A (ap_U_rotor M (F_U_rotor M a1 a2 a3 a4 a5))), (A 4, xc4 Z A (ap_U_rotor M (F_U_rotor M a1 a2 a3 a4 a5))), (A 5, xc5 Z A (ap_U_rotor M (F_U_rotor M a1 a2 a3 a4 a5))), (A 17, xc17 Z A (ap_U_rotor M (F_U_rotor M a1 a2 a3 a4 a5)))]) [0, 1, 2, 3, 4, 5, 6] rfl
    have hD9 := hD.sub (ws' := [(A 0, xc0 Z A (ap_U_rotor M (F_U_rotor M a1 a2 a3 a4 a5))), (A 1, xc1 Z A (ap_U_rotor M (F_U_rotor M a1 a2 a3 a4 a5))), (A 2, xc2 Z A (ap_U_rotor M (F_U_rotor M a1 a2 a3 a4 a5))), (A 3, xc3 Z A (ap_U_rotor M (F_U_rotor M a1 a2 a3 a4 a5))), (A 4, xc4 Z A (ap_U_rotor M (F_U_rotor M a1 a2 a3 a4 a5))), (A 5, xc5 Z A (ap_U_rotor M (F_U_rotor M a1 a2 a3 a4 a5))), (A 17, xc17 Z A (ap_U_rotor M (F_U_rotor M a1 a2 a3 a4 a5)))]) [0, 1, 2, 3, 4, 5, 6] (by decide) rfl
    refine W.widen (k := 1) (n := 6) (by decide) (by decide) ?_
    exact W.iret hx hb hr (fun t ht hW => ⟨⟨0, (ap_U_rotor M (F_U_rotor M a1 a2 a3 a4 a5)), rfl, hG.symm, xE_at hP9 hK hD9 ht hW⟩, hS.F ht⟩) hS.2.2 d_L_rotor_23
  · have hG : G_L_rotor M a1 a2 a3 a4 a5 = (1, M) := by rw [G_L_rotor, if_neg (by rw [hT]; decide), if_pos hT]
    refine xt_catchV (hpc := 14) (As := [.int a1, .int a2, .int a3, .int a4, .int a5]) (rest := []) ⟨hx, hb, hml, hown, hts⟩ (t1_U_rotor l dC dI Z A _ M a1 a2 a3 a4 a5 htl hT) (cwV 5 hts (xw_V _ tw_338 tw_339 tw_340 tw_1 tw_341) rfl rfl rfl (by decide +kernel) ⟨Nat.le_of_ble_eq_true rfl, Nat.le_of_ble_eq_true rfl⟩) ⟨xBs_blind, va_recv (q0 := 0) (ci := 9) hK hP rfl rfl, fun U hU hW => ⟨rfl, xBs_at hPc hK hDc hq hs U hU hW⟩⟩ rfl hl.1 rfl (Nat.le_of_ble_eq_true rfl) d_L_rotor_8 ⟨Nat.le_of_ble_eq_true rfl, Nat.le_of_ble_eq_true rfl⟩ (fun pl hpl th hth => by
        rw [htab]
        exact xr_hit hpl hown (by decide) (by decide) (htt (.classLink "CentrifugeUnitLaw" 13 "java/lang/IllegalArgumentException") tw_336) (hq.2.2 (.castable "java/lang/IllegalArgumentException" "java/lang/IllegalArgumentException") (by decide +kernel)) hth rfl) (fun xa H1 hz ho => ?_)
    refine lv_astore (lv' := [(6, .ref xa), (0, .ref (A 0)), (1, .int a1), (2, .int a2), (3, .int a3), (4, .int a4), (5, .int a5)]) hx hb d_L_rotor_14 hl (by decide) rfl (fun ls hl => ?_)
    refine lv_iconst (v := 1) hx hb d_L_rotor_16 (by decide) ?_
    have hP9 : va_P (dC, dI) xcl [(A 0, xc0 Z A M), (A 1, xc1 Z A M), (A 2, xc2 Z A M), (A 3, xc3 Z A M), (A 4, xc4 Z A M), (A 5, xc5 Z A M), (A 17, xc17 Z A M)] H1 := xP_kept hP ho
    have hS := xS_kept hS hz ho
    exact W.iret hx hb hr (fun t ht hW => ⟨⟨1, M, rfl, hG.symm, xE_at hP9 hK hD ht hW⟩, hS.F ht⟩) hS.2.2 d_L_rotor_17
  · have hG : G_L_rotor M a1 a2 a3 a4 a5 = (2, M) := by rw [G_L_rotor, if_neg (by rw [hT]; decide), if_neg (by rw [hT]; decide)]
    refine xt_catchV (hpc := 18) (As := [.int a1, .int a2, .int a3, .int a4, .int a5]) (rest := []) ⟨hx, hb, hml, hown, hts⟩ (t2_U_rotor l dC dI Z A _ M a1 a2 a3 a4 a5 htl hT) (cwV 5 hts (xw_V _ tw_338 tw_339 tw_340 tw_1 tw_341) rfl rfl rfl (by decide +kernel) ⟨Nat.le_of_ble_eq_true rfl, Nat.le_of_ble_eq_true rfl⟩) ⟨xBs_blind, va_recv (q0 := 0) (ci := 9) hK hP rfl rfl, fun U hU hW => ⟨rfl, xBs_at hPc hK hDc hq hs U hU hW⟩⟩ rfl hl.1 rfl (Nat.le_of_ble_eq_true rfl) d_L_rotor_8 ⟨Nat.le_of_ble_eq_true rfl, Nat.le_of_ble_eq_true rfl⟩ (fun pl hpl th hth => by
        rw [htab]
        exact xr_pass hpl hown (by decide) (by decide) (htt (.classLink "CentrifugeUnitLaw" 13 "java/lang/IllegalArgumentException") tw_336) (hq.2.2 (.not (.castable "java/lang/IllegalStateException" "java/lang/IllegalArgumentException")) (by decide +kernel)) hth (xr_hit hpl hown (by decide) (by decide) (htt (.classLink "CentrifugeUnitLaw" 15 "java/lang/IllegalStateException") tw_337) (hq.2.2 (.castable "java/lang/IllegalStateException" "java/lang/IllegalStateException") (by decide +kernel)) hth rfl)) (fun xa H1 hz ho => ?_)
    refine lv_astore (lv' := [(6, .ref xa), (0, .ref (A 0)), (1, .int a1), (2, .int a2), (3, .int a3), (4, .int a4), (5, .int a5)]) hx hb d_L_rotor_18 hl (by decide) rfl (fun ls hl => ?_)
    refine lv_iconst (v := 2) hx hb d_L_rotor_20 (by decide) ?_
    have hP9 : va_P (dC, dI) xcl [(A 0, xc0 Z A M), (A 1, xc1 Z A M), (A 2, xc2 Z A M), (A 3, xc3 Z A M), (A 4, xc4 Z A M), (A 5, xc5 Z A M), (A 17, xc17 Z A M)] H1 := xP_kept hP ho
    have hS := xS_kept hS hz ho
    exact W.iret hx hb hr (fun t ht hW => ⟨⟨2, M, rfl, hG.symm, xE_at hP9 hK hD ht hW⟩, hS.F ht⟩) hS.2.2 d_L_rotor_21
abbrev bc_L_segment : ByteArray := method_5_code
def y_L_segment : MethodName := ⟨"CentrifugeUnitLaw", "segment", "(LCentrifugeUnit;III[J)I"⟩
def G_L_segment (M : XM) (a1 : Int32) (a2 : Int32) (a3 : Int32) : Int32 × XM := (if T_U_segment M a1 a2 a3 = 0 then (0, (xout (ap_U_segment M (F_U_segment M a1 a2 a3).2) M ((F_U_segment M a1 a2 a3).1).toInt64)) else if T_U_segment M a1 a2 a3 = 1 then (1, M) else (2, M))
theorem tc_L_segment (M : XM) (a1 : Int32) (a2 : Int32) (a3 : Int32) : T_U_segment M a1 a2 a3 = 0 ∨ T_U_segment M a1 a2 a3 = 1 ∨ T_U_segment M a1 a2 a3 = 2 := by
  simp only [T_U_segment_k1, T_U_segment_k4, T_U_segment_k3, T_U_segment_k2, T_U_segment]; repeat' split
  all_goals simp
theorem d_L_segment_0 : decode bc_L_segment 0 = .ok (.aload 4, 2) := by decide +kernel
theorem d_L_segment_2 : decode bc_L_segment 2 = .ok (.iconst 0, 1) := by decide +kernel
theorem d_L_segment_3 : decode bc_L_segment 3 = .ok (.aload_n 0, 1) := by decide +kernel
theorem d_L_segment_4 : decode bc_L_segment 4 = .ok (.iload_n 1, 1) := by decide +kernel
theorem d_L_segment_5 : decode bc_L_segment 5 = .ok (.iload_n 2, 1) := by decide +kernel
theorem d_L_segment_6 : decode bc_L_segment 6 = .ok (.iload_n 3, 1) := by decide +kernel
theorem d_L_segment_7 : decode bc_L_segment 7 = .ok (.invokevirtual 21, 3) := by decide +kernel
theorem d_L_segment_10 : decode bc_L_segment 10 = .ok (.i2l, 1) := by decide +kernel
theorem d_L_segment_11 : decode bc_L_segment 11 = .ok (.lastore, 1) := by decide +kernel
theorem d_L_segment_12 : decode bc_L_segment 12 = .ok (.goto 11, 3) := by decide +kernel
theorem d_L_segment_15 : decode bc_L_segment 15 = .ok (.astore 5, 2) := by decide +kernel
theorem d_L_segment_17 : decode bc_L_segment 17 = .ok (.iconst 1, 1) := by decide +kernel
theorem d_L_segment_18 : decode bc_L_segment 18 = .ok (.ireturn, 1) := by decide +kernel
theorem d_L_segment_19 : decode bc_L_segment 19 = .ok (.astore 5, 2) := by decide +kernel
theorem d_L_segment_21 : decode bc_L_segment 21 = .ok (.iconst 2, 1) := by decide +kernel
theorem d_L_segment_22 : decode bc_L_segment 22 = .ok (.ireturn, 1) := by decide +kernel
theorem d_L_segment_23 : decode bc_L_segment 23 = .ok (.iconst 0, 1) := by decide +kernel
theorem d_L_segment_24 : decode bc_L_segment 24 = .ok (.ireturn, 1) := by decide +kernel
set_option maxHeartbeats 4000000 in
set_option maxRecDepth 100000 in
theorem c_L_segment (l : Launch) (htl : l.stackTraces = false) (dC : Nat → ClassId) (dI : Nat → Nat → Nat) (Z : Nat → ClassId) (A : Nat → Nat) (sz : Nat) (M : XM) (a1 : Int32) (a2 : Int32) (a3 : Int32) (hc : 0 ≤ (M.1 1)) : Met l y_L_segment (.codeWith y_L_segment bc_L_segment 6 (some .int) [(0, 12, 15, 13), (0, 12, 19, 15)] :: xw) ({ frames := 7, cells := 1, slots := 6, locals := 113 }) (va_Pc [.ref (A 0), .int a1, .int a2, .int a3, .ref (A 32)] (xBs (dC, dI) xcl (xty Z) sz [(A 0, xc0 Z A M), (A 17, xc17 Z A M), (A 6, xc6 Z A M), (A 7, xc7 Z A M), (A 8, xc8 Z A M), (A 9, xc9 Z A M), (A 32, xc32 Z A M)])) (va_Qi (fun (r : Int32) (N : XM) => (r, N) = G_L_segment M a1 a2 a3) (fun N => xE (dC, dI) xcl (xty Z) (va_A [(A 0, xc0 Z A M), (A 17, xc17 Z A M), (A 6, xc6 Z A M), (A 7, xc7 Z A M), (A 8, xc8 Z A M), (A 9, xc9 Z A M), (A 32, xc32 Z A M)] sz) [(A 0, xc0 Z A N), (A 17, xc17 Z A N), (A 6, xc6 Z A N), (A 7, xc7 Z A N), (A 8, xc8 Z A N), (A 9, xc9 Z A N), (A 32, xc32 Z A N)]) (va_A [(A 0, xc0 Z A M), (A 17, xc17 Z A M), (A 6, xc6 Z A M), (A 7, xc7 Z A M), (A 8, xc8 Z A M), (A 9, xc9 Z A M), (A 32, xc32 Z A M)] sz)) 1 6 (va_A [(A 0, xc0 Z A M), (A 17, xc17 Z A M), (A 6, xc6 Z A M), (A 7, xc7 Z A M), (A 8, xc8 Z A M), (A 9, xc9 Z A M), (A 32, xc32 Z A M)] sz) := by
  refine va_MetW (cc := bc_L_segment) (maxL := 6) (ret := (some .int)) (hh := [(0, 12, 15, 13), (0, 12, 19, 15)]) (by decide) rfl ?_
  intro p e s m args below meth c s₁ B hml hv
  obtain ⟨rfl, ⟨hsz, hP, hK, hD0, hq⟩, hs⟩ := hv
  have hx := B.exec
  have hb := B.bytes
  have hr := B.returns
  have hts := atoms_spec (ws := (.codeWith y_L_segment bc_L_segment 6 (some .int) [(0, 12, 15, 13), (0, 12, 19, 15)] :: xw)) B.pre
  have htt : ∀ w ∈ xw, w.before _ s = true := fun w h => hts w (List.mem_cons_of_mem _ h)
  have hown : s.vm.findClass "CentrifugeUnitLaw" = some m.cls := findClass_of_methodNamed B.named
  have hlocks := B.notSynchronized
  have htab := xh_list (xh_table B (hts _ List.mem_cons_self))
  subst hsz
  have hD := hD0.self (sz := s.heap.size)
  generalize hAe : va_A [(A 0, xc0 Z A M), (A 17, xc17 Z A M), (A 6, xc6 Z A M), (A 7, xc7 Z A M), (A 8, xc8 Z A M), (A 9, xc9 Z A M), (A 32, xc32 Z A M)] s.heap.size = AA at hD ⊢
  have hA : ∀ q : Nat, s.heap.size ≤ q → AA q := fun q h => by rw [← hAe]; exact Or.inr h
  have hS : va_S AA s.heap s.heap [] := va_S.rf
  have hP : va_P (dC, dI) xcl [(A 0, .inr (9, [.ref (A 1), .ref (A 6), .ref (A 10), .ref (A 11), .ref (A 12), .ref (A 13), .ref (A 17)])), (A 17, .inr (0, [.ref (A 1), .ref (A 6), .ref (A 11), .ref (A 12), .ref (A 13), .ref (A 18), .ref (A 19), .int (M.1 12), .int (M.1 13), .int (M.1 14), .int (M.1 15), .int (M.1 16), .int (M.1 17), .int (M.1 18)])), (A 6, .inr (3, [.ref (A 7), .ref (A 8), .ref (A 9), .int (M.1 1)])), (A 7, .inl (Z 0, 12, .inl (M.2.2.1 7))), (A 8, .inl (Z 0, 12, .inl (M.2.2.1 8))), (A 9, .inl (Z 0, 12, .inl (M.2.2.1 9))), (A 32, .inl (Z 1, 1, .inr (.inl (M.2.2.2 32))))] s.heap := hP
  have hD : va_D AA [(A 0, .inr (9, [.ref (A 1), .ref (A 6), .ref (A 10), .ref (A 11), .ref (A 12), .ref (A 13), .ref (A 17)])), (A 17, .inr (0, [.ref (A 1), .ref (A 6), .ref (A 11), .ref (A 12), .ref (A 13), .ref (A 18), .ref (A 19), .int (M.1 12), .int (M.1 13), .int (M.1 14), .int (M.1 15), .int (M.1 16), .int (M.1 17), .int (M.1 18)])), (A 6, .inr (3, [.ref (A 7), .ref (A 8), .ref (A 9), .int (M.1 1)])), (A 7, .inl (Z 0, 12, .inl (M.2.2.1 7))), (A 8, .inl (Z 0, 12, .inl (M.2.2.1 8))), (A 9, .inl (Z 0, 12, .inl (M.2.2.1 9))), (A 32, .inl (Z 1, 1, .inr (.inl (M.2.2.2 32))))] := hD
  have hl := lv_entry ([.ref (A 0), .int a1, .int a2, .int a3, .ref (A 32)]) (n := 6) (Nat.le_of_ble_eq_true rfl)
  rw [lg_entry_eq]
  generalize (lg_sl ([.ref (A 0), .int a1, .int a2, .int a3, .ref (A 32)]) ++ List.replicate (6 - (lg_sl ([.ref (A 0), .int a1, .int a2, .int a3, .ref (A 32)])).length) Slot.unset).toArray = ls at hl ⊢
  have hl : lv_has ls 6 [(0, .ref (A 0)), (1, .int a1), (2, .int a2), (3, .int a3), (4, .ref (A 32))] := hl
  have hPc := hP.sub (ws' := [(A 0, xc0 Z A M), (A 17, xc17 Z A M), (A 6, xc6 Z A M), (A 7, xc7 Z A M), (A 8, xc8 Z A M), (A 9, xc9 Z A M)]) [0, 1, 2, 3, 4, 5] rfl
  have hDc := hD.sub (ws' := [(A 0, xc0 Z A M), (A 17, xc17 Z A M), (A 6, xc6 Z A M), (A 7, xc7 Z A M), (A 8, xc8 Z A M), (A 9, xc9 Z A M)]) [0, 1, 2, 3, 4, 5] (by decide) rfl
  refine lv_aload hx hb d_L_segment_0 (lv_at hl 4 rfl) ?_
  refine lv_iconst (v := 0) hx hb d_L_segment_2 (by decide) ?_
  refine lv_aload_n hx hb d_L_segment_3 rfl (lv_at hl 0 rfl) ?_
  refine lv_iload_n hx hb d_L_segment_4 rfl (lv_at hl 1 rfl) ?_
  refine lv_iload_n hx hb d_L_segment_5 rfl (lv_at hl 2 rfl) ?_
  refine lv_iload_n hx hb d_L_segment_6 rfl (lv_at hl 3 rfl) ?_
  rcases tc_L_segment M a1 a2 a3 with hT | hT | hT
  · have hG : G_L_segment M a1 a2 a3 = (0, (xout (ap_U_segment M (F_U_segment M a1 a2 a3).2) M ((F_U_segment M a1 a2 a3).1).toInt64)) := by rw [G_L_segment, if_pos hT]
    refine xk_i (wc := [(A 0, xc0 Z A M), (A 17, xc17 Z A M), (A 6, xc6 Z A M), (A 7, xc7 Z A M), (A 8, xc8 Z A M), (A 9, xc9 Z A M)]) (wr := [(A 32, .inl (Z 1, 1, .inr (.inl (M.2.2.2 32))))]) (va_runV (As := [.int a1, .int a2, .int a3]) (rest := [.int 0, .ref (A 32)]) ⟨hx, hb, hml, hown, hts⟩ (c_U_segment l dC dI Z A _ M a1 a2 a3 hc hT) (cwV 3 hts (xw_V _ tw_457 tw_458 tw_459 tw_1 tw_460) rfl rfl rfl (by decide +kernel) ⟨Nat.le_of_ble_eq_true rfl, Nat.le_of_ble_eq_true rfl⟩) ⟨xB_blind, va_recv (q0 := 0) (ci := 9) hK hP rfl rfl, fun U hU hW => ⟨rfl, xB_at hPc hK hDc hq U hU hW⟩⟩ rfl rfl hl.1 rfl (lv_room (Nat.le_of_ble_eq_true rfl)) d_L_segment_7 ⟨Nat.le_of_ble_eq_true rfl, Nat.le_of_ble_eq_true rfl⟩) hP hD hS hA [0, 1, 2, 3, 4, 5] [6] rfl rfl (by decide) (by decide) (fun r u H locs hu hP hD hS => ?_)
    obtain ⟨rfl, rfl⟩ : r = (F_U_segment M a1 a2 a3).1 ∧ u = (F_U_segment M a1 a2 a3).2 := ⟨congrArg Prod.fst hu, congrArg Prod.snd hu⟩
    have hP : va_P (dC, dI) xcl [(A 32, xc32 Z A M), (A 0, xc0 Z A (ap_U_segment M (F_U_segment M a1 a2 a3).2)), (A 17, xc17 Z A (ap_U_segment M (F_U_segment M a1 a2 a3).2)), (A 6, xc6 Z A (ap_U_segment M (F_U_segment M a1 a2 a3).2)), (A 7, xc7 Z A (ap_U_segment M (F_U_segment M a1 a2 a3).2)), (A 8, xc8 Z A (ap_U_segment M (F_U_segment M a1 a2 a3).2)), (A 9, xc9 Z A (ap_U_segment M (F_U_segment M a1 a2 a3).2))] H := hP
    have hD : va_D AA [(A 32, xc32 Z A M), (A 0, xc0 Z A (ap_U_segment M (F_U_segment M a1 a2 a3).2)), (A 17, xc17 Z A (ap_U_segment M (F_U_segment M a1 a2 a3).2)), (A 6, xc6 Z A (ap_U_segment M (F_U_segment M a1 a2 a3).2)), (A 7, xc7 Z A (ap_U_segment M (F_U_segment M a1 a2 a3).2)), (A 8, xc8 Z A (ap_U_segment M (F_U_segment M a1 a2 a3).2)), (A 9, xc9 Z A (ap_U_segment M (F_U_segment M a1 a2 a3).2))] := hD
    refine lv_i2l (v := ((F_U_segment M a1 a2 a3).1).toInt64) hx hb d_L_segment_10 rfl ?_
    refine va_last (D := (dC, dI)) hx hb hK hP hD hS 0 1 rfl rfl (by unfold vp_in; decide) d_L_segment_11 (fun H locs hP hD hS => ?_)
    refine lv_goto (tgt := 23) hx hb d_L_segment_12 rfl ?_
    refine lv_iconst (v := 0) hx hb d_L_segment_23 (by decide) ?_
    have hP9 := hP.sub (ws' := [(A 0, xc0 Z A (xout (ap_U_segment M (F_U_segment M a1 a2 a3).2) M ((F_U_segment M a1 a2 a3).1).toInt64)), (A 17, xc17 Z A (xout (ap_U_segment M (F_U_segment M a1 a2 a3).2) M ((F_U_segment M a1 a2 a3).1).toInt64)), (A 6, xc6 Z A (xout (ap_U_segment M (F_U_segment M a1 a2 a3).2) M ((F_U_segment M a1 a2 a3).1).toInt64)), (A 7, xc7 Z A (xout (ap_U_segment M (F_U_segment M a1 a2 a3).2) M ((F_U_segment M a1 a2 a3).1).toInt64)), (A 8, xc8 Z A (xout (ap_U_segment M (F_U_segment M a1 a2 a3).2) M ((F_U_segment M a1 a2 a3).1).toInt64)), (A 9, xc9 Z A (xout (ap_U_segment M (F_U_segment M a1 a2 a3).2) M ((F_U_segment M a1 a2 a3).1).toInt64)), (A 32, xc32 Z A (xout (ap_U_segment M (F_U_segment M a1 a2 a3).2) M ((F_U_segment M a1 a2 a3).1).toInt64))]) [1, 2, 3, 4, 5, 6, 0] rfl
    have hD9 := hD.sub (ws' := [(A 0, xc0 Z A (xout (ap_U_segment M (F_U_segment M a1 a2 a3).2) M ((F_U_segment M a1 a2 a3).1).toInt64)), (A 17, xc17 Z A (xout (ap_U_segment M (F_U_segment M a1 a2 a3).2) M ((F_U_segment M a1 a2 a3).1).toInt64)), (A 6, xc6 Z A (xout (ap_U_segment M (F_U_segment M a1 a2 a3).2) M ((F_U_segment M a1 a2 a3).1).toInt64)), (A 7, xc7 Z A (xout (ap_U_segment M (F_U_segment M a1 a2 a3).2) M ((F_U_segment M a1 a2 a3).1).toInt64)), (A 8, xc8 Z A (xout (ap_U_segment M (F_U_segment M a1 a2 a3).2) M ((F_U_segment M a1 a2 a3).1).toInt64)), (A 9, xc9 Z A (xout (ap_U_segment M (F_U_segment M a1 a2 a3).2) M ((F_U_segment M a1 a2 a3).1).toInt64)), (A 32, xc32 Z A (xout (ap_U_segment M (F_U_segment M a1 a2 a3).2) M ((F_U_segment M a1 a2 a3).1).toInt64))]) [1, 2, 3, 4, 5, 6, 0] (by decide) rfl
    refine W.widen (k := 1) (n := 6) (by decide) (by decide) ?_
    exact W.iret hx hb hr (fun t ht hW => ⟨⟨0, (xout (ap_U_segment M (F_U_segment M a1 a2 a3).2) M ((F_U_segment M a1 a2 a3).1).toInt64), rfl, hG.symm, xE_at hP9 hK hD9 ht hW⟩, hS.F ht⟩) hS.2.2 d_L_segment_24
  · have hG : G_L_segment M a1 a2 a3 = (1, M) := by rw [G_L_segment, if_neg (by rw [hT]; decide), if_pos hT]
    refine xt_catchV (hpc := 15) (As := [.int a1, .int a2, .int a3]) (rest := [.int 0, .ref (A 32)]) ⟨hx, hb, hml, hown, hts⟩ (t1_U_segment l dC dI Z A _ M a1 a2 a3 htl hT) (cwV 3 hts (xw_V _ tw_457 tw_458 tw_459 tw_1 tw_460) rfl rfl rfl (by decide +kernel) ⟨Nat.le_of_ble_eq_true rfl, Nat.le_of_ble_eq_true rfl⟩) ⟨xBs_blind, va_recv (q0 := 0) (ci := 9) hK hP rfl rfl, fun U hU hW => ⟨rfl, xBs_at hPc hK hDc hq hs U hU hW⟩⟩ rfl hl.1 rfl (Nat.le_of_ble_eq_true rfl) d_L_segment_7 ⟨Nat.le_of_ble_eq_true rfl, Nat.le_of_ble_eq_true rfl⟩ (fun pl hpl th hth => by
        rw [htab]
        exact xr_hit hpl hown (by decide) (by decide) (htt (.classLink "CentrifugeUnitLaw" 13 "java/lang/IllegalArgumentException") tw_336) (hq.2.2 (.castable "java/lang/IllegalArgumentException" "java/lang/IllegalArgumentException") (by decide +kernel)) hth rfl) (fun xa H1 hz ho => ?_)
    refine lv_astore (lv' := [(5, .ref xa), (0, .ref (A 0)), (1, .int a1), (2, .int a2), (3, .int a3), (4, .ref (A 32))]) hx hb d_L_segment_15 hl (by decide) rfl (fun ls hl => ?_)
    refine lv_iconst (v := 1) hx hb d_L_segment_17 (by decide) ?_
    have hP9 : va_P (dC, dI) xcl [(A 0, xc0 Z A M), (A 17, xc17 Z A M), (A 6, xc6 Z A M), (A 7, xc7 Z A M), (A 8, xc8 Z A M), (A 9, xc9 Z A M), (A 32, xc32 Z A M)] H1 := xP_kept hP ho
    have hS := xS_kept hS hz ho
    exact W.iret hx hb hr (fun t ht hW => ⟨⟨1, M, rfl, hG.symm, xE_at hP9 hK hD ht hW⟩, hS.F ht⟩) hS.2.2 d_L_segment_18
  · have hG : G_L_segment M a1 a2 a3 = (2, M) := by rw [G_L_segment, if_neg (by rw [hT]; decide), if_neg (by rw [hT]; decide)]
    refine xt_catchV (hpc := 19) (As := [.int a1, .int a2, .int a3]) (rest := [.int 0, .ref (A 32)]) ⟨hx, hb, hml, hown, hts⟩ (t2_U_segment l dC dI Z A _ M a1 a2 a3 htl hT) (cwV 3 hts (xw_V _ tw_457 tw_458 tw_459 tw_1 tw_460) rfl rfl rfl (by decide +kernel) ⟨Nat.le_of_ble_eq_true rfl, Nat.le_of_ble_eq_true rfl⟩) ⟨xBs_blind, va_recv (q0 := 0) (ci := 9) hK hP rfl rfl, fun U hU hW => ⟨rfl, xBs_at hPc hK hDc hq hs U hU hW⟩⟩ rfl hl.1 rfl (Nat.le_of_ble_eq_true rfl) d_L_segment_7 ⟨Nat.le_of_ble_eq_true rfl, Nat.le_of_ble_eq_true rfl⟩ (fun pl hpl th hth => by
        rw [htab]
        exact xr_pass hpl hown (by decide) (by decide) (htt (.classLink "CentrifugeUnitLaw" 13 "java/lang/IllegalArgumentException") tw_336) (hq.2.2 (.not (.castable "java/lang/IllegalStateException" "java/lang/IllegalArgumentException")) (by decide +kernel)) hth (xr_hit hpl hown (by decide) (by decide) (htt (.classLink "CentrifugeUnitLaw" 15 "java/lang/IllegalStateException") tw_337) (hq.2.2 (.castable "java/lang/IllegalStateException" "java/lang/IllegalStateException") (by decide +kernel)) hth rfl)) (fun xa H1 hz ho => ?_)
    refine lv_astore (lv' := [(5, .ref xa), (0, .ref (A 0)), (1, .int a1), (2, .int a2), (3, .int a3), (4, .ref (A 32))]) hx hb d_L_segment_19 hl (by decide) rfl (fun ls hl => ?_)
    refine lv_iconst (v := 2) hx hb d_L_segment_21 (by decide) ?_
    have hP9 : va_P (dC, dI) xcl [(A 0, xc0 Z A M), (A 17, xc17 Z A M), (A 6, xc6 Z A M), (A 7, xc7 Z A M), (A 8, xc8 Z A M), (A 9, xc9 Z A M), (A 32, xc32 Z A M)] H1 := xP_kept hP ho
    have hS := xS_kept hS hz ho
    exact W.iret hx hb hr (fun t ht hW => ⟨⟨2, M, rfl, hG.symm, xE_at hP9 hK hD ht hW⟩, hS.F ht⟩) hS.2.2 d_L_segment_22
abbrev bc_L_look : ByteArray := method_14_code
def y_L_look : MethodName := ⟨"CentrifugeUnitLaw", "look", "(LCentrifugeUnit;I[J)I"⟩
def G_L_look (M : XM) (a1 : Int32) : Int32 × XM := (if T_U_look M a1 = 0 then (0, (xout M M ((F_U_look M a1)).toInt64)) else (1, M))
theorem tc_L_look (M : XM) (a1 : Int32) : T_U_look M a1 = 0 ∨ T_U_look M a1 = 1 := by
  simp only [T_U_look]; repeat' split
  all_goals simp
theorem d_L_look_0 : decode bc_L_look 0 = .ok (.aload_n 2, 1) := by decide +kernel
theorem d_L_look_1 : decode bc_L_look 1 = .ok (.iconst 0, 1) := by decide +kernel
theorem d_L_look_2 : decode bc_L_look 2 = .ok (.aload_n 0, 1) := by decide +kernel
theorem d_L_look_3 : decode bc_L_look 3 = .ok (.iload_n 1, 1) := by decide +kernel
theorem d_L_look_4 : decode bc_L_look 4 = .ok (.invokevirtual 52, 3) := by decide +kernel
theorem d_L_look_7 : decode bc_L_look 7 = .ok (.i2l, 1) := by decide +kernel
theorem d_L_look_8 : decode bc_L_look 8 = .ok (.lastore, 1) := by decide +kernel
theorem d_L_look_9 : decode bc_L_look 9 = .ok (.goto 6, 3) := by decide +kernel
theorem d_L_look_12 : decode bc_L_look 12 = .ok (.astore_n 3, 1) := by decide +kernel
theorem d_L_look_13 : decode bc_L_look 13 = .ok (.iconst 1, 1) := by decide +kernel
theorem d_L_look_14 : decode bc_L_look 14 = .ok (.ireturn, 1) := by decide +kernel
theorem d_L_look_15 : decode bc_L_look 15 = .ok (.iconst 0, 1) := by decide +kernel
theorem d_L_look_16 : decode bc_L_look 16 = .ok (.ireturn, 1) := by decide +kernel
set_option maxHeartbeats 4000000 in
set_option maxRecDepth 100000 in
theorem c_L_look (l : Launch) (htl : l.stackTraces = false) (dC : Nat → ClassId) (dI : Nat → Nat → Nat) (Z : Nat → ClassId) (A : Nat → Nat) (sz : Nat) (M : XM) (a1 : Int32) : Met l y_L_look (.codeWith y_L_look bc_L_look 4 (some .int) [(0, 9, 12, 13)] :: xw) ({ frames := 7, cells := 1, slots := 6, locals := 111 }) (va_Pc [.ref (A 0), .int a1, .ref (A 32)] (xBs (dC, dI) xcl (xty Z) sz [(A 0, xc0 Z A M), (A 17, xc17 Z A M), (A 11, xc11 Z A M), (A 18, xc18 Z A M), (A 19, xc19 Z A M), (A 32, xc32 Z A M)])) (va_Qi (fun (r : Int32) (N : XM) => (r, N) = G_L_look M a1) (fun N => xE (dC, dI) xcl (xty Z) (va_A [(A 0, xc0 Z A M), (A 17, xc17 Z A M), (A 11, xc11 Z A M), (A 18, xc18 Z A M), (A 19, xc19 Z A M), (A 32, xc32 Z A M)] sz) [(A 0, xc0 Z A N), (A 17, xc17 Z A N), (A 11, xc11 Z A N), (A 18, xc18 Z A N), (A 19, xc19 Z A N), (A 32, xc32 Z A N)]) (va_A [(A 0, xc0 Z A M), (A 17, xc17 Z A M), (A 11, xc11 Z A M), (A 18, xc18 Z A M), (A 19, xc19 Z A M), (A 32, xc32 Z A M)] sz)) 1 6 (va_A [(A 0, xc0 Z A M), (A 17, xc17 Z A M), (A 11, xc11 Z A M), (A 18, xc18 Z A M), (A 19, xc19 Z A M), (A 32, xc32 Z A M)] sz) := by
  refine va_MetW (cc := bc_L_look) (maxL := 4) (ret := (some .int)) (hh := [(0, 9, 12, 13)]) (by decide) rfl ?_
  intro p e s m args below meth c s₁ B hml hv
  obtain ⟨rfl, ⟨hsz, hP, hK, hD0, hq⟩, hs⟩ := hv
  have hx := B.exec
  have hb := B.bytes
  have hr := B.returns
  have hts := atoms_spec (ws := (.codeWith y_L_look bc_L_look 4 (some .int) [(0, 9, 12, 13)] :: xw)) B.pre
  have htt : ∀ w ∈ xw, w.before _ s = true := fun w h => hts w (List.mem_cons_of_mem _ h)
  have hown : s.vm.findClass "CentrifugeUnitLaw" = some m.cls := findClass_of_methodNamed B.named
  have hlocks := B.notSynchronized
  have htab := xh_list (xh_table B (hts _ List.mem_cons_self))
  subst hsz
  have hD := hD0.self (sz := s.heap.size)
  generalize hAe : va_A [(A 0, xc0 Z A M), (A 17, xc17 Z A M), (A 11, xc11 Z A M), (A 18, xc18 Z A M), (A 19, xc19 Z A M), (A 32, xc32 Z A M)] s.heap.size = AA at hD ⊢
  have hA : ∀ q : Nat, s.heap.size ≤ q → AA q := fun q h => by rw [← hAe]; exact Or.inr h
  have hS : va_S AA s.heap s.heap [] := va_S.rf
  have hP : va_P (dC, dI) xcl [(A 0, .inr (9, [.ref (A 1), .ref (A 6), .ref (A 10), .ref (A 11), .ref (A 12), .ref (A 13), .ref (A 17)])), (A 17, .inr (0, [.ref (A 1), .ref (A 6), .ref (A 11), .ref (A 12), .ref (A 13), .ref (A 18), .ref (A 19), .int (M.1 12), .int (M.1 13), .int (M.1 14), .int (M.1 15), .int (M.1 16), .int (M.1 17), .int (M.1 18)])), (A 11, .inr (7, [.int (M.1 2), .int (M.1 3), .int (M.1 4), .int (M.1 5), .int (M.1 6), .int (M.1 7)])), (A 18, .inr (8, [.int (M.1 19), .int (M.1 20), .int (M.1 21), .int (M.1 22)])), (A 19, .inr (6, [.long (M.2.1 1), .long (M.2.1 2), .int (M.1 23), .int (M.1 24), .int (M.1 25), .int (M.1 26), .int (M.1 27), .int (M.1 28)])), (A 32, .inl (Z 1, 1, .inr (.inl (M.2.2.2 32))))] s.heap := hP
  have hD : va_D AA [(A 0, .inr (9, [.ref (A 1), .ref (A 6), .ref (A 10), .ref (A 11), .ref (A 12), .ref (A 13), .ref (A 17)])), (A 17, .inr (0, [.ref (A 1), .ref (A 6), .ref (A 11), .ref (A 12), .ref (A 13), .ref (A 18), .ref (A 19), .int (M.1 12), .int (M.1 13), .int (M.1 14), .int (M.1 15), .int (M.1 16), .int (M.1 17), .int (M.1 18)])), (A 11, .inr (7, [.int (M.1 2), .int (M.1 3), .int (M.1 4), .int (M.1 5), .int (M.1 6), .int (M.1 7)])), (A 18, .inr (8, [.int (M.1 19), .int (M.1 20), .int (M.1 21), .int (M.1 22)])), (A 19, .inr (6, [.long (M.2.1 1), .long (M.2.1 2), .int (M.1 23), .int (M.1 24), .int (M.1 25), .int (M.1 26), .int (M.1 27), .int (M.1 28)])), (A 32, .inl (Z 1, 1, .inr (.inl (M.2.2.2 32))))] := hD
  have hl := lv_entry ([.ref (A 0), .int a1, .ref (A 32)]) (n := 4) (Nat.le_of_ble_eq_true rfl)
  rw [lg_entry_eq]
  generalize (lg_sl ([.ref (A 0), .int a1, .ref (A 32)]) ++ List.replicate (4 - (lg_sl ([.ref (A 0), .int a1, .ref (A 32)])).length) Slot.unset).toArray = ls at hl ⊢
  have hl : lv_has ls 4 [(0, .ref (A 0)), (1, .int a1), (2, .ref (A 32))] := hl
  have hPc := hP.sub (ws' := [(A 0, xc0 Z A M), (A 17, xc17 Z A M), (A 11, xc11 Z A M), (A 18, xc18 Z A M), (A 19, xc19 Z A M)]) [0, 1, 2, 3, 4] rfl
  have hDc := hD.sub (ws' := [(A 0, xc0 Z A M), (A 17, xc17 Z A M), (A 11, xc11 Z A M), (A 18, xc18 Z A M), (A 19, xc19 Z A M)]) [0, 1, 2, 3, 4] (by decide) rfl
  refine lv_aload_n hx hb d_L_look_0 rfl (lv_at hl 2 rfl) ?_
  refine lv_iconst (v := 0) hx hb d_L_look_1 (by decide) ?_
  refine lv_aload_n hx hb d_L_look_2 rfl (lv_at hl 0 rfl) ?_
  refine lv_iload_n hx hb d_L_look_3 rfl (lv_at hl 1 rfl) ?_
  rcases tc_L_look M a1 with hT | hT
  · have hG : G_L_look M a1 = (0, (xout M M ((F_U_look M a1)).toInt64)) := by rw [G_L_look, if_pos hT]
    refine xk_p (va_runV (As := [.int a1]) (rest := [.int 0, .ref (A 32)]) ⟨hx, hb, hml, hown, hts⟩ (c_U_look l dC dI Z A _ M a1 hT) (cwV 1 hts (xw_V _ tw_735 tw_736 tw_737 tw_1 tw_738) rfl rfl rfl (by decide +kernel) ⟨Nat.le_of_ble_eq_true rfl, Nat.le_of_ble_eq_true rfl⟩) ⟨xB_blind, va_recv (q0 := 0) (ci := 9) hK hP rfl rfl, fun U hU hW => ⟨rfl, xB_at hPc hK hDc hq U hU hW⟩⟩ rfl rfl hl.1 rfl (lv_room (Nat.le_of_ble_eq_true rfl)) d_L_look_4 ⟨Nat.le_of_ble_eq_true rfl, Nat.le_of_ble_eq_true rfl⟩) ?_
    refine lv_i2l (v := ((F_U_look M a1)).toInt64) hx hb d_L_look_7 rfl ?_
    refine va_last (D := (dC, dI)) hx hb hK hP hD hS 5 1 rfl rfl (by unfold vp_in; decide) d_L_look_8 (fun H locs hP hD hS => ?_)
    refine lv_goto (tgt := 15) hx hb d_L_look_9 rfl ?_
    refine lv_iconst (v := 0) hx hb d_L_look_15 (by decide) ?_
    have hP9 := hP.sub (ws' := [(A 0, xc0 Z A (xout M M ((F_U_look M a1)).toInt64)), (A 17, xc17 Z A (xout M M ((F_U_look M a1)).toInt64)), (A 11, xc11 Z A (xout M M ((F_U_look M a1)).toInt64)), (A 18, xc18 Z A (xout M M ((F_U_look M a1)).toInt64)), (A 19, xc19 Z A (xout M M ((F_U_look M a1)).toInt64)), (A 32, xc32 Z A (xout M M ((F_U_look M a1)).toInt64))]) [0, 1, 2, 3, 4, 5] rfl
    have hD9 := hD.sub (ws' := [(A 0, xc0 Z A (xout M M ((F_U_look M a1)).toInt64)), (A 17, xc17 Z A (xout M M ((F_U_look M a1)).toInt64)), (A 11, xc11 Z A (xout M M ((F_U_look M a1)).toInt64)), (A 18, xc18 Z A (xout M M ((F_U_look M a1)).toInt64)), (A 19, xc19 Z A (xout M M ((F_U_look M a1)).toInt64)), (A 32, xc32 Z A (xout M M ((F_U_look M a1)).toInt64))]) [0, 1, 2, 3, 4, 5] (by decide) rfl
    refine W.widen (k := 1) (n := 6) (by decide) (by decide) ?_
    exact W.iret hx hb hr (fun t ht hW => ⟨⟨0, (xout M M ((F_U_look M a1)).toInt64), rfl, hG.symm, xE_at hP9 hK hD9 ht hW⟩, hS.F ht⟩) hS.2.2 d_L_look_16
  · have hG : G_L_look M a1 = (1, M) := by rw [G_L_look, if_neg (by rw [hT]; decide)]
    refine xt_catchV (hpc := 12) (As := [.int a1]) (rest := [.int 0, .ref (A 32)]) ⟨hx, hb, hml, hown, hts⟩ (t1_U_look l dC dI Z A _ M a1 htl hT) (cwV 1 hts (xw_V _ tw_735 tw_736 tw_737 tw_1 tw_738) rfl rfl rfl (by decide +kernel) ⟨Nat.le_of_ble_eq_true rfl, Nat.le_of_ble_eq_true rfl⟩) ⟨xBs_blind, va_recv (q0 := 0) (ci := 9) hK hP rfl rfl, fun U hU hW => ⟨rfl, xBs_at hPc hK hDc hq hs U hU hW⟩⟩ rfl hl.1 rfl (Nat.le_of_ble_eq_true rfl) d_L_look_4 ⟨Nat.le_of_ble_eq_true rfl, Nat.le_of_ble_eq_true rfl⟩ (fun pl hpl th hth => by
        rw [htab]
        exact xr_hit hpl hown (by decide) (by decide) (htt (.classLink "CentrifugeUnitLaw" 13 "java/lang/IllegalArgumentException") tw_336) (hq.2.2 (.castable "java/lang/IllegalArgumentException" "java/lang/IllegalArgumentException") (by decide +kernel)) hth rfl) (fun xa H1 hz ho => ?_)
    refine lv_astore_n (lv' := [(3, .ref xa), (0, .ref (A 0)), (1, .int a1), (2, .ref (A 32))]) hx hb d_L_look_12 rfl hl (by decide) rfl (fun ls hl => ?_)
    refine lv_iconst (v := 1) hx hb d_L_look_13 (by decide) ?_
    have hP9 : va_P (dC, dI) xcl [(A 0, xc0 Z A M), (A 17, xc17 Z A M), (A 11, xc11 Z A M), (A 18, xc18 Z A M), (A 19, xc19 Z A M), (A 32, xc32 Z A M)] H1 := xP_kept hP ho
    have hS := xS_kept hS hz ho
    exact W.iret hx hb hr (fun t ht hW => ⟨⟨1, M, rfl, hG.symm, xE_at hP9 hK hD ht hW⟩, hS.F ht⟩) hS.2.2 d_L_look_14
abbrev bc_L_record : ByteArray := method_15_code
def y_L_record : MethodName := ⟨"CentrifugeUnitLaw", "record", "(LCentrifugeUnit;II[J)I"⟩
def G_L_record (M : XM) (a1 : Int32) (a2 : Int32) : Int32 × XM := (if T_U_record M a1 a2 = 0 then (0, (xout M M (F_U_record M a1 a2))) else if T_U_record M a1 a2 = 1 then (1, M) else (2, M))
theorem tc_L_record (M : XM) (a1 : Int32) (a2 : Int32) : T_U_record M a1 a2 = 0 ∨ T_U_record M a1 a2 = 1 ∨ T_U_record M a1 a2 = 3 := by
  simp only [T_U_record_k2, T_U_record_k1, T_U_record]; repeat' split
  all_goals simp
theorem d_L_record_0 : decode bc_L_record 0 = .ok (.aload_n 3, 1) := by decide +kernel
theorem d_L_record_1 : decode bc_L_record 1 = .ok (.iconst 0, 1) := by decide +kernel
theorem d_L_record_2 : decode bc_L_record 2 = .ok (.aload_n 0, 1) := by decide +kernel
theorem d_L_record_3 : decode bc_L_record 3 = .ok (.iload_n 1, 1) := by decide +kernel
theorem d_L_record_4 : decode bc_L_record 4 = .ok (.iload_n 2, 1) := by decide +kernel
theorem d_L_record_5 : decode bc_L_record 5 = .ok (.invokevirtual 55, 3) := by decide +kernel
theorem d_L_record_8 : decode bc_L_record 8 = .ok (.lastore, 1) := by decide +kernel
theorem d_L_record_9 : decode bc_L_record 9 = .ok (.goto 11, 3) := by decide +kernel
theorem d_L_record_12 : decode bc_L_record 12 = .ok (.astore 4, 2) := by decide +kernel
theorem d_L_record_14 : decode bc_L_record 14 = .ok (.iconst 1, 1) := by decide +kernel
theorem d_L_record_15 : decode bc_L_record 15 = .ok (.ireturn, 1) := by decide +kernel
theorem d_L_record_16 : decode bc_L_record 16 = .ok (.astore 4, 2) := by decide +kernel
theorem d_L_record_18 : decode bc_L_record 18 = .ok (.iconst 2, 1) := by decide +kernel
theorem d_L_record_19 : decode bc_L_record 19 = .ok (.ireturn, 1) := by decide +kernel
theorem d_L_record_20 : decode bc_L_record 20 = .ok (.iconst 0, 1) := by decide +kernel
theorem d_L_record_21 : decode bc_L_record 21 = .ok (.ireturn, 1) := by decide +kernel
set_option maxHeartbeats 4000000 in
set_option maxRecDepth 100000 in
theorem c_L_record (l : Launch) (htl : l.stackTraces = false) (dC : Nat → ClassId) (dI : Nat → Nat → Nat) (Z : Nat → ClassId) (A : Nat → Nat) (sz : Nat) (M : XM) (a1 : Int32) (a2 : Int32) : Met l y_L_record (.codeWith y_L_record bc_L_record 5 (some .int) [(0, 9, 12, 13), (0, 9, 16, 59)] :: xw) ({ frames := 7, cells := 1, slots := 6, locals := 112 }) (va_Pc [.ref (A 0), .int a1, .int a2, .ref (A 32)] (xBs (dC, dI) xcl (xty Z) sz [(A 0, xc0 Z A M), (A 13, xc13 Z A M), (A 14, xc14 Z A M), (A 15, xc15 Z A M), (A 16, xc16 Z A M), (A 32, xc32 Z A M)])) (va_Qi (fun (r : Int32) (N : XM) => (r, N) = G_L_record M a1 a2) (fun N => xE (dC, dI) xcl (xty Z) (va_A [(A 0, xc0 Z A M), (A 13, xc13 Z A M), (A 14, xc14 Z A M), (A 15, xc15 Z A M), (A 16, xc16 Z A M), (A 32, xc32 Z A M)] sz) [(A 0, xc0 Z A N), (A 13, xc13 Z A N), (A 14, xc14 Z A N), (A 15, xc15 Z A N), (A 16, xc16 Z A N), (A 32, xc32 Z A N)]) (va_A [(A 0, xc0 Z A M), (A 13, xc13 Z A M), (A 14, xc14 Z A M), (A 15, xc15 Z A M), (A 16, xc16 Z A M), (A 32, xc32 Z A M)] sz)) 1 6 (va_A [(A 0, xc0 Z A M), (A 13, xc13 Z A M), (A 14, xc14 Z A M), (A 15, xc15 Z A M), (A 16, xc16 Z A M), (A 32, xc32 Z A M)] sz) := by
  refine va_MetW (cc := bc_L_record) (maxL := 5) (ret := (some .int)) (hh := [(0, 9, 12, 13), (0, 9, 16, 59)]) (by decide) rfl ?_
  intro p e s m args below meth c s₁ B hml hv
  obtain ⟨rfl, ⟨hsz, hP, hK, hD0, hq⟩, hs⟩ := hv
  have hx := B.exec
  have hb := B.bytes
  have hr := B.returns
  have hts := atoms_spec (ws := (.codeWith y_L_record bc_L_record 5 (some .int) [(0, 9, 12, 13), (0, 9, 16, 59)] :: xw)) B.pre
  have htt : ∀ w ∈ xw, w.before _ s = true := fun w h => hts w (List.mem_cons_of_mem _ h)
  have hown : s.vm.findClass "CentrifugeUnitLaw" = some m.cls := findClass_of_methodNamed B.named
  have hlocks := B.notSynchronized
  have htab := xh_list (xh_table B (hts _ List.mem_cons_self))
  subst hsz
  have hD := hD0.self (sz := s.heap.size)
  generalize hAe : va_A [(A 0, xc0 Z A M), (A 13, xc13 Z A M), (A 14, xc14 Z A M), (A 15, xc15 Z A M), (A 16, xc16 Z A M), (A 32, xc32 Z A M)] s.heap.size = AA at hD ⊢
  have hA : ∀ q : Nat, s.heap.size ≤ q → AA q := fun q h => by rw [← hAe]; exact Or.inr h
  have hS : va_S AA s.heap s.heap [] := va_S.rf
  have hP : va_P (dC, dI) xcl [(A 0, .inr (9, [.ref (A 1), .ref (A 6), .ref (A 10), .ref (A 11), .ref (A 12), .ref (A 13), .ref (A 17)])), (A 13, .inr (4, [.ref (A 14), .ref (A 15), .ref (A 16), .int (M.1 11)])), (A 14, .inl (Z 0, 16, .inl (M.2.2.1 14))), (A 15, .inl (Z 1, 16, .inr (.inl (M.2.2.2 15)))), (A 16, .inl (Z 0, 16, .inl (M.2.2.1 16))), (A 32, .inl (Z 1, 1, .inr (.inl (M.2.2.2 32))))] s.heap := hP
  have hD : va_D AA [(A 0, .inr (9, [.ref (A 1), .ref (A 6), .ref (A 10), .ref (A 11), .ref (A 12), .ref (A 13), .ref (A 17)])), (A 13, .inr (4, [.ref (A 14), .ref (A 15), .ref (A 16), .int (M.1 11)])), (A 14, .inl (Z 0, 16, .inl (M.2.2.1 14))), (A 15, .inl (Z 1, 16, .inr (.inl (M.2.2.2 15)))), (A 16, .inl (Z 0, 16, .inl (M.2.2.1 16))), (A 32, .inl (Z 1, 1, .inr (.inl (M.2.2.2 32))))] := hD
  have hl := lv_entry ([.ref (A 0), .int a1, .int a2, .ref (A 32)]) (n := 5) (Nat.le_of_ble_eq_true rfl)
  rw [lg_entry_eq]
  generalize (lg_sl ([.ref (A 0), .int a1, .int a2, .ref (A 32)]) ++ List.replicate (5 - (lg_sl ([.ref (A 0), .int a1, .int a2, .ref (A 32)])).length) Slot.unset).toArray = ls at hl ⊢
  have hl : lv_has ls 5 [(0, .ref (A 0)), (1, .int a1), (2, .int a2), (3, .ref (A 32))] := hl
  have hPc := hP.sub (ws' := [(A 0, xc0 Z A M), (A 13, xc13 Z A M), (A 14, xc14 Z A M), (A 15, xc15 Z A M), (A 16, xc16 Z A M)]) [0, 1, 2, 3, 4] rfl
  have hDc := hD.sub (ws' := [(A 0, xc0 Z A M), (A 13, xc13 Z A M), (A 14, xc14 Z A M), (A 15, xc15 Z A M), (A 16, xc16 Z A M)]) [0, 1, 2, 3, 4] (by decide) rfl
  refine lv_aload_n hx hb d_L_record_0 rfl (lv_at hl 3 rfl) ?_
  refine lv_iconst (v := 0) hx hb d_L_record_1 (by decide) ?_
  refine lv_aload_n hx hb d_L_record_2 rfl (lv_at hl 0 rfl) ?_
  refine lv_iload_n hx hb d_L_record_3 rfl (lv_at hl 1 rfl) ?_
  refine lv_iload_n hx hb d_L_record_4 rfl (lv_at hl 2 rfl) ?_
  rcases tc_L_record M a1 a2 with hT | hT | hT
  · have hG : G_L_record M a1 a2 = (0, (xout M M (F_U_record M a1 a2))) := by rw [G_L_record, if_pos hT]
    refine xk_p (va_runV (As := [.int a1, .int a2]) (rest := [.int 0, .ref (A 32)]) ⟨hx, hb, hml, hown, hts⟩ (c_U_record l dC dI Z A _ M a1 a2 hT) (cwV 2 hts (xw_V _ tw_744 tw_745 tw_746 tw_1 tw_747) rfl rfl rfl (by decide +kernel) ⟨Nat.le_of_ble_eq_true rfl, Nat.le_of_ble_eq_true rfl⟩) ⟨xB_blind, va_recv (q0 := 0) (ci := 9) hK hP rfl rfl, fun U hU hW => ⟨rfl, xB_at hPc hK hDc hq U hU hW⟩⟩ rfl rfl hl.1 rfl (lv_room (Nat.le_of_ble_eq_true rfl)) d_L_record_5 ⟨Nat.le_of_ble_eq_true rfl, Nat.le_of_ble_eq_true rfl⟩) ?_
    refine va_last (D := (dC, dI)) hx hb hK hP hD hS 5 1 rfl rfl (by unfold vp_in; decide) d_L_record_8 (fun H locs hP hD hS => ?_)
    refine lv_goto (tgt := 20) hx hb d_L_record_9 rfl ?_
    refine lv_iconst (v := 0) hx hb d_L_record_20 (by decide) ?_
    have hP9 := hP.sub (ws' := [(A 0, xc0 Z A (xout M M (F_U_record M a1 a2))), (A 13, xc13 Z A (xout M M (F_U_record M a1 a2))), (A 14, xc14 Z A (xout M M (F_U_record M a1 a2))), (A 15, xc15 Z A (xout M M (F_U_record M a1 a2))), (A 16, xc16 Z A (xout M M (F_U_record M a1 a2))), (A 32, xc32 Z A (xout M M (F_U_record M a1 a2)))]) [0, 1, 2, 3, 4, 5] rfl
    have hD9 := hD.sub (ws' := [(A 0, xc0 Z A (xout M M (F_U_record M a1 a2))), (A 13, xc13 Z A (xout M M (F_U_record M a1 a2))), (A 14, xc14 Z A (xout M M (F_U_record M a1 a2))), (A 15, xc15 Z A (xout M M (F_U_record M a1 a2))), (A 16, xc16 Z A (xout M M (F_U_record M a1 a2))), (A 32, xc32 Z A (xout M M (F_U_record M a1 a2)))]) [0, 1, 2, 3, 4, 5] (by decide) rfl
    refine W.widen (k := 1) (n := 6) (by decide) (by decide) ?_
    exact W.iret hx hb hr (fun t ht hW => ⟨⟨0, (xout M M (F_U_record M a1 a2)), rfl, hG.symm, xE_at hP9 hK hD9 ht hW⟩, hS.F ht⟩) hS.2.2 d_L_record_21
  · have hG : G_L_record M a1 a2 = (1, M) := by rw [G_L_record, if_neg (by rw [hT]; decide), if_pos hT]
    refine xt_catchV (hpc := 12) (As := [.int a1, .int a2]) (rest := [.int 0, .ref (A 32)]) ⟨hx, hb, hml, hown, hts⟩ (t1_U_record l dC dI Z A _ M a1 a2 htl hT) (cwV 2 hts (xw_V _ tw_744 tw_745 tw_746 tw_1 tw_747) rfl rfl rfl (by decide +kernel) ⟨Nat.le_of_ble_eq_true rfl, Nat.le_of_ble_eq_true rfl⟩) ⟨xBs_blind, va_recv (q0 := 0) (ci := 9) hK hP rfl rfl, fun U hU hW => ⟨rfl, xBs_at hPc hK hDc hq hs U hU hW⟩⟩ rfl hl.1 rfl (Nat.le_of_ble_eq_true rfl) d_L_record_5 ⟨Nat.le_of_ble_eq_true rfl, Nat.le_of_ble_eq_true rfl⟩ (fun pl hpl th hth => by
        rw [htab]
        exact xr_hit hpl hown (by decide) (by decide) (htt (.classLink "CentrifugeUnitLaw" 13 "java/lang/IllegalArgumentException") tw_336) (hq.2.2 (.castable "java/lang/IllegalArgumentException" "java/lang/IllegalArgumentException") (by decide +kernel)) hth rfl) (fun xa H1 hz ho => ?_)
    refine lv_astore (lv' := [(4, .ref xa), (0, .ref (A 0)), (1, .int a1), (2, .int a2), (3, .ref (A 32))]) hx hb d_L_record_12 hl (by decide) rfl (fun ls hl => ?_)
    refine lv_iconst (v := 1) hx hb d_L_record_14 (by decide) ?_
    have hP9 : va_P (dC, dI) xcl [(A 0, xc0 Z A M), (A 13, xc13 Z A M), (A 14, xc14 Z A M), (A 15, xc15 Z A M), (A 16, xc16 Z A M), (A 32, xc32 Z A M)] H1 := xP_kept hP ho
    have hS := xS_kept hS hz ho
    exact W.iret hx hb hr (fun t ht hW => ⟨⟨1, M, rfl, hG.symm, xE_at hP9 hK hD ht hW⟩, hS.F ht⟩) hS.2.2 d_L_record_15
  · have hG : G_L_record M a1 a2 = (2, M) := by rw [G_L_record, if_neg (by rw [hT]; decide), if_neg (by rw [hT]; decide)]
    refine xt_catchV (hpc := 16) (As := [.int a1, .int a2]) (rest := [.int 0, .ref (A 32)]) ⟨hx, hb, hml, hown, hts⟩ (t3_U_record l dC dI Z A _ M a1 a2 htl hT) (cwV 2 hts (xw_V _ tw_744 tw_745 tw_746 tw_1 tw_747) rfl rfl rfl (by decide +kernel) ⟨Nat.le_of_ble_eq_true rfl, Nat.le_of_ble_eq_true rfl⟩) ⟨xBs_blind, va_recv (q0 := 0) (ci := 9) hK hP rfl rfl, fun U hU hW => ⟨rfl, xBs_at hPc hK hDc hq hs U hU hW⟩⟩ rfl hl.1 rfl (Nat.le_of_ble_eq_true rfl) d_L_record_5 ⟨Nat.le_of_ble_eq_true rfl, Nat.le_of_ble_eq_true rfl⟩ (fun pl hpl th hth => by
        rw [htab]
        exact xr_pass hpl hown (by decide) (by decide) (htt (.classLink "CentrifugeUnitLaw" 13 "java/lang/IllegalArgumentException") tw_336) (hq.2.2 (.not (.castable "java/lang/IndexOutOfBoundsException" "java/lang/IllegalArgumentException")) (by decide +kernel)) hth (xr_hit hpl hown (by decide) (by decide) (htt (.classLink "CentrifugeUnitLaw" 59 "java/lang/IndexOutOfBoundsException") tw_743) (hq.2.2 (.castable "java/lang/IndexOutOfBoundsException" "java/lang/IndexOutOfBoundsException") (by decide +kernel)) hth rfl)) (fun xa H1 hz ho => ?_)
    refine lv_astore (lv' := [(4, .ref xa), (0, .ref (A 0)), (1, .int a1), (2, .int a2), (3, .ref (A 32))]) hx hb d_L_record_16 hl (by decide) rfl (fun ls hl => ?_)
    refine lv_iconst (v := 2) hx hb d_L_record_18 (by decide) ?_
    have hP9 : va_P (dC, dI) xcl [(A 0, xc0 Z A M), (A 13, xc13 Z A M), (A 14, xc14 Z A M), (A 15, xc15 Z A M), (A 16, xc16 Z A M), (A 32, xc32 Z A M)] H1 := xP_kept hP ho
    have hS := xS_kept hS hz ho
    exact W.iret hx hb hr (fun t ht hW => ⟨⟨2, M, rfl, hG.symm, xE_at hP9 hK hD ht hW⟩, hS.F ht⟩) hS.2.2 d_L_record_19
abbrev bc_L_tick : ByteArray := method_13_code
def y_L_tick : MethodName := ⟨"CentrifugeUnitLaw", "tick", "(LCentrifugeUnit;I[J)I"⟩
def G_L_tick (M : XM) (a1 : Int32) : Int32 × XM := (if T_U_tick M a1 = 0 then (0, (xout (xit_U_tick M a1.toNatClampNeg) M (((xit_U_tick M a1.toNatClampNeg).1 14)).toInt64)) else (1, M))
theorem tc_L_tick (M : XM) (a1 : Int32) : T_U_tick M a1 = 0 ∨ T_U_tick M a1 = 1 := by
  simp only [T_U_tick_k1, T_U_tick]; repeat' split
  all_goals simp
theorem d_L_tick_0 : decode bc_L_tick 0 = .ok (.aload_n 2, 1) := by decide +kernel
theorem d_L_tick_1 : decode bc_L_tick 1 = .ok (.iconst 0, 1) := by decide +kernel
theorem d_L_tick_2 : decode bc_L_tick 2 = .ok (.aload_n 0, 1) := by decide +kernel
theorem d_L_tick_3 : decode bc_L_tick 3 = .ok (.iload_n 1, 1) := by decide +kernel
theorem d_L_tick_4 : decode bc_L_tick 4 = .ok (.invokevirtual 48, 3) := by decide +kernel
theorem d_L_tick_7 : decode bc_L_tick 7 = .ok (.i2l, 1) := by decide +kernel
theorem d_L_tick_8 : decode bc_L_tick 8 = .ok (.lastore, 1) := by decide +kernel
theorem d_L_tick_9 : decode bc_L_tick 9 = .ok (.goto 6, 3) := by decide +kernel
theorem d_L_tick_12 : decode bc_L_tick 12 = .ok (.astore_n 3, 1) := by decide +kernel
theorem d_L_tick_13 : decode bc_L_tick 13 = .ok (.iconst 1, 1) := by decide +kernel
theorem d_L_tick_14 : decode bc_L_tick 14 = .ok (.ireturn, 1) := by decide +kernel
theorem d_L_tick_15 : decode bc_L_tick 15 = .ok (.iconst 0, 1) := by decide +kernel
theorem d_L_tick_16 : decode bc_L_tick 16 = .ok (.ireturn, 1) := by decide +kernel
set_option maxHeartbeats 4000000 in
set_option maxRecDepth 100000 in
theorem c_L_tick (l : Launch) (htl : l.stackTraces = false) (dC : Nat → ClassId) (dI : Nat → Nat → Nat) (Z : Nat → ClassId) (A : Nat → Nat) (sz : Nat) (M : XM) (a1 : Int32) (hc : (M.1 1) ≤ 12) : Met l y_L_tick (.codeWith y_L_tick bc_L_tick 4 (some .int) [(0, 9, 12, 13)] :: xw) ({ frames := 7, cells := 1, slots := 6, locals := 154 }) (va_Pc [.ref (A 0), .int a1, .ref (A 32)] (xBs (dC, dI) xcl (xty Z) sz [(A 0, xc0 Z A M), (A 17, xc17 Z A M), (A 10, xc10 Z A M), (A 11, xc11 Z A M), (A 18, xc18 Z A M), (A 19, xc19 Z A M), (A 1, xc1 Z A M), (A 2, xc2 Z A M), (A 12, xc12 Z A M), (A 4, xc4 Z A M), (A 3, xc3 Z A M), (A 6, xc6 Z A M), (A 7, xc7 Z A M), (A 8, xc8 Z A M), (A 9, xc9 Z A M), (A 13, xc13 Z A M), (A 14, xc14 Z A M), (A 15, xc15 Z A M), (A 16, xc16 Z A M), (A 5, xc5 Z A M), (A 32, xc32 Z A M)])) (va_Qi (fun (r : Int32) (N : XM) => (r, N) = G_L_tick M a1) (fun N => xE (dC, dI) xcl (xty Z) (va_A [(A 0, xc0 Z A M), (A 17, xc17 Z A M), (A 10, xc10 Z A M), (A 11, xc11 Z A M), (A 18, xc18 Z A M), (A 19, xc19 Z A M), (A 1, xc1 Z A M), (A 2, xc2 Z A M), (A 12, xc12 Z A M), (A 4, xc4 Z A M), (A 3, xc3 Z A M), (A 6, xc6 Z A M), (A 7, xc7 Z A M), (A 8, xc8 Z A M), (A 9, xc9 Z A M), (A 13, xc13 Z A M), (A 14, xc14 Z A M), (A 15, xc15 Z A M), (A 16, xc16 Z A M), (A 5, xc5 Z A M), (A 32, xc32 Z A M)] sz) [(A 0, xc0 Z A N), (A 17, xc17 Z A N), (A 10, xc10 Z A N), (A 11, xc11 Z A N), (A 18, xc18 Z A N), (A 19, xc19 Z A N), (A 1, xc1 Z A N), (A 2, xc2 Z A N), (A 12, xc12 Z A N), (A 4, xc4 Z A N), (A 3, xc3 Z A N), (A 6, xc6 Z A N), (A 7, xc7 Z A N), (A 8, xc8 Z A N), (A 9, xc9 Z A N), (A 13, xc13 Z A N), (A 14, xc14 Z A N), (A 15, xc15 Z A N), (A 16, xc16 Z A N), (A 5, xc5 Z A N), (A 32, xc32 Z A N)]) (va_A [(A 0, xc0 Z A M), (A 17, xc17 Z A M), (A 10, xc10 Z A M), (A 11, xc11 Z A M), (A 18, xc18 Z A M), (A 19, xc19 Z A M), (A 1, xc1 Z A M), (A 2, xc2 Z A M), (A 12, xc12 Z A M), (A 4, xc4 Z A M), (A 3, xc3 Z A M), (A 6, xc6 Z A M), (A 7, xc7 Z A M), (A 8, xc8 Z A M), (A 9, xc9 Z A M), (A 13, xc13 Z A M), (A 14, xc14 Z A M), (A 15, xc15 Z A M), (A 16, xc16 Z A M), (A 5, xc5 Z A M), (A 32, xc32 Z A M)] sz)) 1 6 (va_A [(A 0, xc0 Z A M), (A 17, xc17 Z A M), (A 10, xc10 Z A M), (A 11, xc11 Z A M), (A 18, xc18 Z A M), (A 19, xc19 Z A M), (A 1, xc1 Z A M), (A 2, xc2 Z A M), (A 12, xc12 Z A M), (A 4, xc4 Z A M), (A 3, xc3 Z A M), (A 6, xc6 Z A M), (A 7, xc7 Z A M), (A 8, xc8 Z A M), (A 9, xc9 Z A M), (A 13, xc13 Z A M), (A 14, xc14 Z A M), (A 15, xc15 Z A M), (A 16, xc16 Z A M), (A 5, xc5 Z A M), (A 32, xc32 Z A M)] sz) := by
  refine va_MetW (cc := bc_L_tick) (maxL := 4) (ret := (some .int)) (hh := [(0, 9, 12, 13)]) (by decide) rfl ?_
  intro p e s m args below meth c s₁ B hml hv
  obtain ⟨rfl, ⟨hsz, hP, hK, hD0, hq⟩, hs⟩ := hv
  have hx := B.exec
  have hb := B.bytes
  have hr := B.returns
  have hts := atoms_spec (ws := (.codeWith y_L_tick bc_L_tick 4 (some .int) [(0, 9, 12, 13)] :: xw)) B.pre
  have htt : ∀ w ∈ xw, w.before _ s = true := fun w h => hts w (List.mem_cons_of_mem _ h)
  have hown : s.vm.findClass "CentrifugeUnitLaw" = some m.cls := findClass_of_methodNamed B.named
  have hlocks := B.notSynchronized
  have htab := xh_list (xh_table B (hts _ List.mem_cons_self))
  subst hsz
  have hD := hD0.self (sz := s.heap.size)
  generalize hAe : va_A [(A 0, xc0 Z A M), (A 17, xc17 Z A M), (A 10, xc10 Z A M), (A 11, xc11 Z A M), (A 18, xc18 Z A M), (A 19, xc19 Z A M), (A 1, xc1 Z A M), (A 2, xc2 Z A M), (A 12, xc12 Z A M), (A 4, xc4 Z A M), (A 3, xc3 Z A M), (A 6, xc6 Z A M), (A 7, xc7 Z A M), (A 8, xc8 Z A M), (A 9, xc9 Z A M), (A 13, xc13 Z A M), (A 14, xc14 Z A M), (A 15, xc15 Z A M), (A 16, xc16 Z A M), (A 5, xc5 Z A M), (A 32, xc32 Z A M)] s.heap.size = AA at hD ⊢
  have hA : ∀ q : Nat, s.heap.size ≤ q → AA q := fun q h => by rw [← hAe]; exact Or.inr h
  have hS : va_S AA s.heap s.heap [] := va_S.rf
  have hP : va_P (dC, dI) xcl [(A 0, .inr (9, [.ref (A 1), .ref (A 6), .ref (A 10), .ref (A 11), .ref (A 12), .ref (A 13), .ref (A 17)])), (A 17, .inr (0, [.ref (A 1), .ref (A 6), .ref (A 11), .ref (A 12), .ref (A 13), .ref (A 18), .ref (A 19), .int (M.1 12), .int (M.1 13), .int (M.1 14), .int (M.1 15), .int (M.1 16), .int (M.1 17), .int (M.1 18)])), (A 10, .inr (2, [.long (M.2.1 0)])), (A 11, .inr (7, [.int (M.1 2), .int (M.1 3), .int (M.1 4), .int (M.1 5), .int (M.1 6), .int (M.1 7)])), (A 18, .inr (8, [.int (M.1 19), .int (M.1 20), .int (M.1 21), .int (M.1 22)])), (A 19, .inr (6, [.long (M.2.1 1), .long (M.2.1 2), .int (M.1 23), .int (M.1 24), .int (M.1 25), .int (M.1 26), .int (M.1 27), .int (M.1 28)])), (A 1, .inr (5, [.ref (A 2), .ref (A 3), .ref (A 4), .ref (A 5), .int (M.1 0)])), (A 2, .inl (Z 0, 4, .inl (M.2.2.1 2))), (A 12, .inr (1, [.int (M.1 8), .int (M.1 9), .int (M.1 10)])), (A 4, .inl (Z 0, 4, .inl (M.2.2.1 4))), (A 3, .inl (Z 0, 4, .inl (M.2.2.1 3))), (A 6, .inr (3, [.ref (A 7), .ref (A 8), .ref (A 9), .int (M.1 1)])), (A 7, .inl (Z 0, 12, .inl (M.2.2.1 7))), (A 8, .inl (Z 0, 12, .inl (M.2.2.1 8))), (A 9, .inl (Z 0, 12, .inl (M.2.2.1 9))), (A 13, .inr (4, [.ref (A 14), .ref (A 15), .ref (A 16), .int (M.1 11)])), (A 14, .inl (Z 0, 16, .inl (M.2.2.1 14))), (A 15, .inl (Z 1, 16, .inr (.inl (M.2.2.2 15)))), (A 16, .inl (Z 0, 16, .inl (M.2.2.1 16))), (A 5, .inl (Z 0, 4, .inl (M.2.2.1 5))), (A 32, .inl (Z 1, 1, .inr (.inl (M.2.2.2 32))))] s.heap := hP
  have hD : va_D AA [(A 0, .inr (9, [.ref (A 1), .ref (A 6), .ref (A 10), .ref (A 11), .ref (A 12), .ref (A 13), .ref (A 17)])), (A 17, .inr (0, [.ref (A 1), .ref (A 6), .ref (A 11), .ref (A 12), .ref (A 13), .ref (A 18), .ref (A 19), .int (M.1 12), .int (M.1 13), .int (M.1 14), .int (M.1 15), .int (M.1 16), .int (M.1 17), .int (M.1 18)])), (A 10, .inr (2, [.long (M.2.1 0)])), (A 11, .inr (7, [.int (M.1 2), .int (M.1 3), .int (M.1 4), .int (M.1 5), .int (M.1 6), .int (M.1 7)])), (A 18, .inr (8, [.int (M.1 19), .int (M.1 20), .int (M.1 21), .int (M.1 22)])), (A 19, .inr (6, [.long (M.2.1 1), .long (M.2.1 2), .int (M.1 23), .int (M.1 24), .int (M.1 25), .int (M.1 26), .int (M.1 27), .int (M.1 28)])), (A 1, .inr (5, [.ref (A 2), .ref (A 3), .ref (A 4), .ref (A 5), .int (M.1 0)])), (A 2, .inl (Z 0, 4, .inl (M.2.2.1 2))), (A 12, .inr (1, [.int (M.1 8), .int (M.1 9), .int (M.1 10)])), (A 4, .inl (Z 0, 4, .inl (M.2.2.1 4))), (A 3, .inl (Z 0, 4, .inl (M.2.2.1 3))), (A 6, .inr (3, [.ref (A 7), .ref (A 8), .ref (A 9), .int (M.1 1)])), (A 7, .inl (Z 0, 12, .inl (M.2.2.1 7))), (A 8, .inl (Z 0, 12, .inl (M.2.2.1 8))), (A 9, .inl (Z 0, 12, .inl (M.2.2.1 9))), (A 13, .inr (4, [.ref (A 14), .ref (A 15), .ref (A 16), .int (M.1 11)])), (A 14, .inl (Z 0, 16, .inl (M.2.2.1 14))), (A 15, .inl (Z 1, 16, .inr (.inl (M.2.2.2 15)))), (A 16, .inl (Z 0, 16, .inl (M.2.2.1 16))), (A 5, .inl (Z 0, 4, .inl (M.2.2.1 5))), (A 32, .inl (Z 1, 1, .inr (.inl (M.2.2.2 32))))] := hD
  have hl := lv_entry ([.ref (A 0), .int a1, .ref (A 32)]) (n := 4) (Nat.le_of_ble_eq_true rfl)
  rw [lg_entry_eq]
  generalize (lg_sl ([.ref (A 0), .int a1, .ref (A 32)]) ++ List.replicate (4 - (lg_sl ([.ref (A 0), .int a1, .ref (A 32)])).length) Slot.unset).toArray = ls at hl ⊢
  have hl : lv_has ls 4 [(0, .ref (A 0)), (1, .int a1), (2, .ref (A 32))] := hl
  have hPc := hP.sub (ws' := [(A 0, xc0 Z A M), (A 17, xc17 Z A M), (A 10, xc10 Z A M), (A 11, xc11 Z A M), (A 18, xc18 Z A M), (A 19, xc19 Z A M), (A 1, xc1 Z A M), (A 2, xc2 Z A M), (A 12, xc12 Z A M), (A 4, xc4 Z A M), (A 3, xc3 Z A M), (A 6, xc6 Z A M), (A 7, xc7 Z A M), (A 8, xc8 Z A M), (A 9, xc9 Z A M), (A 13, xc13 Z A M), (A 14, xc14 Z A M), (A 15, xc15 Z A M), (A 16, xc16 Z A M), (A 5, xc5 Z A M)]) [0, 1, 2, 3, 4, 5, 6, 7, 8, 9, 10, 11, 12, 13, 14, 15, 16, 17, 18, 19] rfl
  have hDc := hD.sub (ws' := [(A 0, xc0 Z A M), (A 17, xc17 Z A M), (A 10, xc10 Z A M), (A 11, xc11 Z A M), (A 18, xc18 Z A M), (A 19, xc19 Z A M), (A 1, xc1 Z A M), (A 2, xc2 Z A M), (A 12, xc12 Z A M), (A 4, xc4 Z A M), (A 3, xc3 Z A M), (A 6, xc6 Z A M), (A 7, xc7 Z A M), (A 8, xc8 Z A M), (A 9, xc9 Z A M), (A 13, xc13 Z A M), (A 14, xc14 Z A M), (A 15, xc15 Z A M), (A 16, xc16 Z A M), (A 5, xc5 Z A M)]) [0, 1, 2, 3, 4, 5, 6, 7, 8, 9, 10, 11, 12, 13, 14, 15, 16, 17, 18, 19] (by decide) rfl
  refine lv_aload_n hx hb d_L_tick_0 rfl (lv_at hl 2 rfl) ?_
  refine lv_iconst (v := 0) hx hb d_L_tick_1 (by decide) ?_
  refine lv_aload_n hx hb d_L_tick_2 rfl (lv_at hl 0 rfl) ?_
  refine lv_iload_n hx hb d_L_tick_3 rfl (lv_at hl 1 rfl) ?_
  rcases tc_L_tick M a1 with hT | hT
  · have hG : G_L_tick M a1 = (0, (xout (xit_U_tick M a1.toNatClampNeg) M (((xit_U_tick M a1.toNatClampNeg).1 14)).toInt64)) := by rw [G_L_tick, if_pos hT]
    refine xk_i (wc := [(A 0, xc0 Z A M), (A 17, xc17 Z A M), (A 10, xc10 Z A M), (A 11, xc11 Z A M), (A 18, xc18 Z A M), (A 19, xc19 Z A M), (A 1, xc1 Z A M), (A 2, xc2 Z A M), (A 12, xc12 Z A M), (A 4, xc4 Z A M), (A 3, xc3 Z A M), (A 6, xc6 Z A M), (A 7, xc7 Z A M), (A 8, xc8 Z A M), (A 9, xc9 Z A M), (A 13, xc13 Z A M), (A 14, xc14 Z A M), (A 15, xc15 Z A M), (A 16, xc16 Z A M), (A 5, xc5 Z A M)]) (wr := [(A 32, .inl (Z 1, 1, .inr (.inl (M.2.2.2 32))))]) (va_runV (As := [.int a1]) (rest := [.int 0, .ref (A 32)]) ⟨hx, hb, hml, hown, hts⟩ (c_U_tick l dC dI Z A _ M a1 hc hT) (cwV 1 hts (xw_V _ tw_576 tw_577 tw_578 tw_1 tw_579) rfl rfl rfl (by decide +kernel) ⟨Nat.le_of_ble_eq_true rfl, Nat.le_of_ble_eq_true rfl⟩) ⟨xB_blind, va_recv (q0 := 0) (ci := 9) hK hP rfl rfl, fun U hU hW => ⟨rfl, xB_at hPc hK hDc hq U hU hW⟩⟩ rfl rfl hl.1 rfl (lv_room (Nat.le_of_ble_eq_true rfl)) d_L_tick_4 ⟨Nat.le_of_ble_eq_true rfl, Nat.le_of_ble_eq_true rfl⟩) hP hD hS hA [0, 1, 2, 3, 4, 5, 6, 7, 8, 9, 10, 11, 12, 13, 14, 15, 16, 17, 18, 19] [20] rfl rfl (by decide) (by decide) (fun r u H locs hu hP hD hS => ?_)
    obtain ⟨rfl, rfl⟩ := hu
    have hP : va_P (dC, dI) xcl [(A 32, xc32 Z A M), (A 0, xc0 Z A (xit_U_tick M a1.toNatClampNeg)), (A 17, xc17 Z A (xit_U_tick M a1.toNatClampNeg)), (A 10, xc10 Z A (xit_U_tick M a1.toNatClampNeg)), (A 11, xc11 Z A (xit_U_tick M a1.toNatClampNeg)), (A 18, xc18 Z A (xit_U_tick M a1.toNatClampNeg)), (A 19, xc19 Z A (xit_U_tick M a1.toNatClampNeg)), (A 1, xc1 Z A (xit_U_tick M a1.toNatClampNeg)), (A 2, xc2 Z A (xit_U_tick M a1.toNatClampNeg)), (A 12, xc12 Z A (xit_U_tick M a1.toNatClampNeg)), (A 4, xc4 Z A (xit_U_tick M a1.toNatClampNeg)), (A 3, xc3 Z A (xit_U_tick M a1.toNatClampNeg)), (A 6, xc6 Z A (xit_U_tick M a1.toNatClampNeg)), (A 7, xc7 Z A (xit_U_tick M a1.toNatClampNeg)), (A 8, xc8 Z A (xit_U_tick M a1.toNatClampNeg)), (A 9, xc9 Z A (xit_U_tick M a1.toNatClampNeg)), (A 13, xc13 Z A (xit_U_tick M a1.toNatClampNeg)), (A 14, xc14 Z A (xit_U_tick M a1.toNatClampNeg)), (A 15, xc15 Z A (xit_U_tick M a1.toNatClampNeg)), (A 16, xc16 Z A (xit_U_tick M a1.toNatClampNeg)), (A 5, xc5 Z A (xit_U_tick M a1.toNatClampNeg))] H := hP
    have hD : va_D AA [(A 32, xc32 Z A M), (A 0, xc0 Z A (xit_U_tick M a1.toNatClampNeg)), (A 17, xc17 Z A (xit_U_tick M a1.toNatClampNeg)), (A 10, xc10 Z A (xit_U_tick M a1.toNatClampNeg)), (A 11, xc11 Z A (xit_U_tick M a1.toNatClampNeg)), (A 18, xc18 Z A (xit_U_tick M a1.toNatClampNeg)), (A 19, xc19 Z A (xit_U_tick M a1.toNatClampNeg)), (A 1, xc1 Z A (xit_U_tick M a1.toNatClampNeg)), (A 2, xc2 Z A (xit_U_tick M a1.toNatClampNeg)), (A 12, xc12 Z A (xit_U_tick M a1.toNatClampNeg)), (A 4, xc4 Z A (xit_U_tick M a1.toNatClampNeg)), (A 3, xc3 Z A (xit_U_tick M a1.toNatClampNeg)), (A 6, xc6 Z A (xit_U_tick M a1.toNatClampNeg)), (A 7, xc7 Z A (xit_U_tick M a1.toNatClampNeg)), (A 8, xc8 Z A (xit_U_tick M a1.toNatClampNeg)), (A 9, xc9 Z A (xit_U_tick M a1.toNatClampNeg)), (A 13, xc13 Z A (xit_U_tick M a1.toNatClampNeg)), (A 14, xc14 Z A (xit_U_tick M a1.toNatClampNeg)), (A 15, xc15 Z A (xit_U_tick M a1.toNatClampNeg)), (A 16, xc16 Z A (xit_U_tick M a1.toNatClampNeg)), (A 5, xc5 Z A (xit_U_tick M a1.toNatClampNeg))] := hD
    refine lv_i2l (v := (((xit_U_tick M a1.toNatClampNeg).1 14)).toInt64) hx hb d_L_tick_7 rfl ?_
    refine va_last (D := (dC, dI)) hx hb hK hP hD hS 0 1 rfl rfl (by unfold vp_in; decide) d_L_tick_8 (fun H locs hP hD hS => ?_)
    refine lv_goto (tgt := 15) hx hb d_L_tick_9 rfl ?_
    refine lv_iconst (v := 0) hx hb d_L_tick_15 (by decide) ?_
    have hP9 := hP.sub (ws' := [(A 0, xc0 Z A (xout (xit_U_tick M a1.toNatClampNeg) M (((xit_U_tick M a1.toNatClampNeg).1 14)).toInt64)), (A 17, xc17 Z A (xout (xit_U_tick M a1.toNatClampNeg) M (((xit_U_tick M a1.toNatClampNeg).1 14)).toInt64)), (A 10, xc10 Z A (xout (xit_U_tick M a1.toNatClampNeg) M (((xit_U_tick M a1.toNatClampNeg).1 14)).toInt64)), (A 11, xc11 Z A (xout (xit_U_tick M a1.toNatClampNeg) M (((xit_U_tick M a1.toNatClampNeg).1 14)).toInt64)), (A 18, xc18 Z A (xout (xit_U_tick M a1.toNatClampNeg) M (((xit_U_tick M a1.toNatClampNeg).1 14)).toInt64)), (A 19, xc19 Z A (xout (xit_U_tick M a1.toNatClampNeg) M (((xit_U_tick M a1.toNatClampNeg).1 14)).toInt64)), (A 1, xc1 Z A (xout (xit_U_tick M a1.toNatClampNeg) M (((xit_U_tick M a1.toNatClampNeg).1 14)).toInt64)), (A 2, xc2 Z A (xout (xit_U_tick M a1.toNatClampNeg) M (((xit_U_tick M a1.toNatClampNeg).1 14)).toInt64)), (A 12, xc12 Z A (xout (xit_U_tick M a1.toNatClampNeg) M (((xit_U_tick M a1.toNatClampNeg).1 14)).toInt64)), (A 4, xc4 Z A (xout (xit_U_tick M a1.toNatClampNeg) M (((xit_U_tick M a1.toNatClampNeg).1 14)).toInt64)), (A 3, xc3 Z A (xout (xit_U_tick M a1.toNatClampNeg) M (((xit_U_tick M a1.toNatClampNeg).1 14)).toInt64)), (A 6, xc6 Z A (xout (xit_U_tick M a1.toNatClampNeg) M (((xit_U_tick M a1.toNatClampNeg).1 14)).toInt64)), (A 7, xc7 Z A (xout (xit_U_tick M a1.toNatClampNeg) M (((xit_U_tick M a1.toNatClampNeg).1 14)).toInt64)), (A 8, xc8 Z A (xout (xit_U_tick M a1.toNatClampNeg) M (((xit_U_tick M a1.toNatClampNeg).1 14)).toInt64)), (A 9, xc9 Z A (xout (xit_U_tick M a1.toNatClampNeg) M (((xit_U_tick M a1.toNatClampNeg).1 14)).toInt64)), (A 13, xc13 Z A (xout (xit_U_tick M a1.toNatClampNeg) M (((xit_U_tick M a1.toNatClampNeg).1 14)).toInt64)), (A 14, xc14 Z A (xout (xit_U_tick M a1.toNatClampNeg) M (((xit_U_tick M a1.toNatClampNeg).1 14)).toInt64)), (A 15, xc15 Z A (xout (xit_U_tick M a1.toNatClampNeg) M (((xit_U_tick M a1.toNatClampNeg).1 14)).toInt64)), (A 16, xc16 Z A (xout (xit_U_tick M a1.toNatClampNeg) M (((xit_U_tick M a1.toNatClampNeg).1 14)).toInt64)), (A 5, xc5 Z A (xout (xit_U_tick M a1.toNatClampNeg) M (((xit_U_tick M a1.toNatClampNeg).1 14)).toInt64)), (A 32, xc32 Z A (xout (xit_U_tick M a1.toNatClampNeg) M (((xit_U_tick M a1.toNatClampNeg).1 14)).toInt64))]) [1, 2, 3, 4, 5, 6, 7, 8, 9, 10, 11, 12, 13, 14, 15, 16, 17, 18, 19, 20, 0] rfl
    have hD9 := hD.sub (ws' := [(A 0, xc0 Z A (xout (xit_U_tick M a1.toNatClampNeg) M (((xit_U_tick M a1.toNatClampNeg).1 14)).toInt64)), (A 17, xc17 Z A (xout (xit_U_tick M a1.toNatClampNeg) M (((xit_U_tick M a1.toNatClampNeg).1 14)).toInt64)), (A 10, xc10 Z A (xout (xit_U_tick M a1.toNatClampNeg) M (((xit_U_tick M a1.toNatClampNeg).1 14)).toInt64)), (A 11, xc11 Z A (xout (xit_U_tick M a1.toNatClampNeg) M (((xit_U_tick M a1.toNatClampNeg).1 14)).toInt64)), (A 18, xc18 Z A (xout (xit_U_tick M a1.toNatClampNeg) M (((xit_U_tick M a1.toNatClampNeg).1 14)).toInt64)), (A 19, xc19 Z A (xout (xit_U_tick M a1.toNatClampNeg) M (((xit_U_tick M a1.toNatClampNeg).1 14)).toInt64)), (A 1, xc1 Z A (xout (xit_U_tick M a1.toNatClampNeg) M (((xit_U_tick M a1.toNatClampNeg).1 14)).toInt64)), (A 2, xc2 Z A (xout (xit_U_tick M a1.toNatClampNeg) M (((xit_U_tick M a1.toNatClampNeg).1 14)).toInt64)), (A 12, xc12 Z A (xout (xit_U_tick M a1.toNatClampNeg) M (((xit_U_tick M a1.toNatClampNeg).1 14)).toInt64)), (A 4, xc4 Z A (xout (xit_U_tick M a1.toNatClampNeg) M (((xit_U_tick M a1.toNatClampNeg).1 14)).toInt64)), (A 3, xc3 Z A (xout (xit_U_tick M a1.toNatClampNeg) M (((xit_U_tick M a1.toNatClampNeg).1 14)).toInt64)), (A 6, xc6 Z A (xout (xit_U_tick M a1.toNatClampNeg) M (((xit_U_tick M a1.toNatClampNeg).1 14)).toInt64)), (A 7, xc7 Z A (xout (xit_U_tick M a1.toNatClampNeg) M (((xit_U_tick M a1.toNatClampNeg).1 14)).toInt64)), (A 8, xc8 Z A (xout (xit_U_tick M a1.toNatClampNeg) M (((xit_U_tick M a1.toNatClampNeg).1 14)).toInt64)), (A 9, xc9 Z A (xout (xit_U_tick M a1.toNatClampNeg) M (((xit_U_tick M a1.toNatClampNeg).1 14)).toInt64)), (A 13, xc13 Z A (xout (xit_U_tick M a1.toNatClampNeg) M (((xit_U_tick M a1.toNatClampNeg).1 14)).toInt64)), (A 14, xc14 Z A (xout (xit_U_tick M a1.toNatClampNeg) M (((xit_U_tick M a1.toNatClampNeg).1 14)).toInt64)), (A 15, xc15 Z A (xout (xit_U_tick M a1.toNatClampNeg) M (((xit_U_tick M a1.toNatClampNeg).1 14)).toInt64)), (A 16, xc16 Z A (xout (xit_U_tick M a1.toNatClampNeg) M (((xit_U_tick M a1.toNatClampNeg).1 14)).toInt64)), (A 5, xc5 Z A (xout (xit_U_tick M a1.toNatClampNeg) M (((xit_U_tick M a1.toNatClampNeg).1 14)).toInt64)), (A 32, xc32 Z A (xout (xit_U_tick M a1.toNatClampNeg) M (((xit_U_tick M a1.toNatClampNeg).1 14)).toInt64))]) [1, 2, 3, 4, 5, 6, 7, 8, 9, 10, 11, 12, 13, 14, 15, 16, 17, 18, 19, 20, 0] (by decide) rfl
    refine W.widen (k := 1) (n := 6) (by decide) (by decide) ?_
    exact W.iret hx hb hr (fun t ht hW => ⟨⟨0, (xout (xit_U_tick M a1.toNatClampNeg) M (((xit_U_tick M a1.toNatClampNeg).1 14)).toInt64), rfl, hG.symm, xE_at hP9 hK hD9 ht hW⟩, hS.F ht⟩) hS.2.2 d_L_tick_16
  · have hG : G_L_tick M a1 = (1, M) := by rw [G_L_tick, if_neg (by rw [hT]; decide)]
    refine xt_catchV (hpc := 12) (As := [.int a1]) (rest := [.int 0, .ref (A 32)]) ⟨hx, hb, hml, hown, hts⟩ (t1_U_tick l dC dI Z A _ M a1 htl hT) (cwV 1 hts (xw_V _ tw_576 tw_577 tw_578 tw_1 tw_579) rfl rfl rfl (by decide +kernel) ⟨Nat.le_of_ble_eq_true rfl, Nat.le_of_ble_eq_true rfl⟩) ⟨xBs_blind, va_recv (q0 := 0) (ci := 9) hK hP rfl rfl, fun U hU hW => ⟨rfl, xBs_at hPc hK hDc hq hs U hU hW⟩⟩ rfl hl.1 rfl (Nat.le_of_ble_eq_true rfl) d_L_tick_4 ⟨Nat.le_of_ble_eq_true rfl, Nat.le_of_ble_eq_true rfl⟩ (fun pl hpl th hth => by
        rw [htab]
        exact xr_hit hpl hown (by decide) (by decide) (htt (.classLink "CentrifugeUnitLaw" 13 "java/lang/IllegalArgumentException") tw_336) (hq.2.2 (.castable "java/lang/IllegalArgumentException" "java/lang/IllegalArgumentException") (by decide +kernel)) hth rfl) (fun xa H1 hz ho => ?_)
    refine lv_astore_n (lv' := [(3, .ref xa), (0, .ref (A 0)), (1, .int a1), (2, .ref (A 32))]) hx hb d_L_tick_12 rfl hl (by decide) rfl (fun ls hl => ?_)
    refine lv_iconst (v := 1) hx hb d_L_tick_13 (by decide) ?_
    have hP9 : va_P (dC, dI) xcl [(A 0, xc0 Z A M), (A 17, xc17 Z A M), (A 10, xc10 Z A M), (A 11, xc11 Z A M), (A 18, xc18 Z A M), (A 19, xc19 Z A M), (A 1, xc1 Z A M), (A 2, xc2 Z A M), (A 12, xc12 Z A M), (A 4, xc4 Z A M), (A 3, xc3 Z A M), (A 6, xc6 Z A M), (A 7, xc7 Z A M), (A 8, xc8 Z A M), (A 9, xc9 Z A M), (A 13, xc13 Z A M), (A 14, xc14 Z A M), (A 15, xc15 Z A M), (A 16, xc16 Z A M), (A 5, xc5 Z A M), (A 32, xc32 Z A M)] H1 := xP_kept hP ho
    have hS := xS_kept hS hz ho
    exact W.iret hx hb hr (fun t ht hW => ⟨⟨1, M, rfl, hG.symm, xE_at hP9 hK hD ht hW⟩, hS.F ht⟩) hS.2.2 d_L_tick_14
