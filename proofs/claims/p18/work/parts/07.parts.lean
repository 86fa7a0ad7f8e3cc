abbrev bc_Model_microsecondsOfTurn : ByteArray := prog_4_method_3_code
def y_Model_microsecondsOfTurn : MethodName := ⟨"CentrifugeUnit$Model", "microsecondsOfTurn", "()J"⟩
theorem d_Model_microsecondsOfTurn_0 : decode bc_Model_microsecondsOfTurn 0 = .ok (.aload_n 0, 1) := by decide +kernel
theorem d_Model_microsecondsOfTurn_1 : decode bc_Model_microsecondsOfTurn 1 = .ok (.getfield 13, 3) := by decide +kernel
theorem d_Model_microsecondsOfTurn_4 : decode bc_Model_microsecondsOfTurn 4 = .ok (.ldc2_w 30, 3) := by decide +kernel
theorem d_Model_microsecondsOfTurn_7 : decode bc_Model_microsecondsOfTurn 7 = .ok (.lcmp, 1) := by decide +kernel
theorem d_Model_microsecondsOfTurn_8 : decode bc_Model_microsecondsOfTurn 8 = .ok (.ifCond .ge 7, 3) := by decide +kernel
theorem d_Model_microsecondsOfTurn_11 : decode bc_Model_microsecondsOfTurn 11 = .ok (.lconst 0, 1) := by decide +kernel
theorem d_Model_microsecondsOfTurn_12 : decode bc_Model_microsecondsOfTurn 12 = .ok (.goto 11, 3) := by decide +kernel
theorem d_Model_microsecondsOfTurn_15 : decode bc_Model_microsecondsOfTurn 15 = .ok (.ldc2_w 32, 3) := by decide +kernel
theorem d_Model_microsecondsOfTurn_18 : decode bc_Model_microsecondsOfTurn 18 = .ok (.aload_n 0, 1) := by decide +kernel
theorem d_Model_microsecondsOfTurn_19 : decode bc_Model_microsecondsOfTurn 19 = .ok (.getfield 13, 3) := by decide +kernel
theorem d_Model_microsecondsOfTurn_22 : decode bc_Model_microsecondsOfTurn 22 = .ok (.ldiv, 1) := by decide +kernel
theorem d_Model_microsecondsOfTurn_23 : decode bc_Model_microsecondsOfTurn 23 = .ok (.lreturn, 1) := by decide +kernel
def F_Model_microsecondsOfTurn (M : XM) : Int64 := (if 0 ≤ (lg_cmp (M.2.1 0) 60000) then (60000000000 / (M.2.1 0)) else 0)
set_option maxHeartbeats 4000000 in
set_option maxRecDepth 100000 in
theorem c_Model_microsecondsOfTurn (l : Launch) (dC : Nat → ClassId) (dI : Nat → Nat → Nat) (Z : Nat → ClassId) (A : Nat → Nat) (sz : Nat) (M : XM) : Met l y_Model_microsecondsOfTurn (.code y_Model_microsecondsOfTurn bc_Model_microsecondsOfTurn 1 (some .long) :: xw) ({ frames := 0, cells := 0, slots := 0, locals := 0 }) (va_Pc [.ref (A 10)] (xB (dC, dI) xcl (xty Z) sz [(A 10, xc10 Z A M)])) (k2_QcV (.long (F_Model_microsecondsOfTurn M))) 0 0 (fun _ => False) := by
  refine Met.ofW (cc := bc_Model_microsecondsOfTurn) (maxL := 1) (ret := (some .long)) (by decide) rfl ?_
  intro p e s m args below meth c s₁ B hml hv
  obtain ⟨rfl, hsz, hP, hK, hD0, hq⟩ := hv
  have hx := B.exec
  have hb := B.bytes
  have hr := B.returns
  have hts := atoms_spec (ws := (.code y_Model_microsecondsOfTurn bc_Model_microsecondsOfTurn 1 (some .long) :: xw)) B.pre
  have htt : ∀ w ∈ xw, w.before _ s = true := fun w h => hts w (List.mem_cons_of_mem _ h)
  have hown : s.vm.findClass "CentrifugeUnit$Model" = some m.cls := findClass_of_methodNamed B.named
  have hlocks := B.notSynchronized
  subst hsz
  have hD : va_D (fun _ => True) [(A 10, .inr (2, [.long (M.2.1 0)]))] := hD0
  have hP : va_P (dC, dI) xcl [(A 10, .inr (2, [.long (M.2.1 0)]))] s.heap := hP
  have hl := lv_entry ([.ref (A 10)]) (n := 1) (Nat.le_of_ble_eq_true rfl)
  rw [lg_entry_eq]
  generalize (lg_sl ([.ref (A 10)]) ++ List.replicate (1 - (lg_sl ([.ref (A 10)])).length) Slot.unset).toArray = ls at hl ⊢
  have hl : lv_has ls 1 [(0, .ref (A 10))] := hl
  refine lv_aload_n hx hb d_Model_microsecondsOfTurn_0 rfl (lv_at hl 0 rfl) ?_
  refine va_get (D := (dC, dI)) (ci := 2) (v := .long (M.2.1 0)) (C := "CentrifugeUnit$Model") (T := xF2) (N := 1) hx hb htt xin2 hown hK hP 0 rfl rfl 0 (by decide) (htt _ tw_84) (fun _ h9 => h9) rfl d_Model_microsecondsOfTurn_1 ?_
  refine lv_ldc2 (v := 60000) hx hb hown (htt _ tw_597) d_Model_microsecondsOfTurn_4 ?_
  refine W.lcmp hx hb d_Model_microsecondsOfTurn_7 ?_
  refine lv_if_ge (tgt := 15) hx hb d_Model_microsecondsOfTurn_8 rfl (fun h1 => ?_) (fun h1 => ?_)
  · refine lv_ldc2 (v := 60000000000) hx hb hown (htt _ tw_598) d_Model_microsecondsOfTurn_15 ?_
    refine lv_aload_n hx hb d_Model_microsecondsOfTurn_18 rfl (lv_at hl 0 rfl) ?_
    refine va_get (D := (dC, dI)) (ci := 2) (v := .long (M.2.1 0)) (C := "CentrifugeUnit$Model") (T := xF2) (N := 1) hx hb htt xin2 hown hK hP 0 rfl rfl 0 (by decide) (htt _ tw_84) (fun _ h9 => h9) rfl d_Model_microsecondsOfTurn_19 ?_
    refine lv_ldiv hx hb d_Model_microsecondsOfTurn_22 (xsp h1) ?_
    exact W.lret hx hb hr (fun t ht hW => ⟨(by rw [F_Model_microsecondsOfTurn, if_pos h1]), ht⟩) (fun _ h => absurd h List.not_mem_nil) d_Model_microsecondsOfTurn_23
  · refine lv_lconst (v := 0) hx hb d_Model_microsecondsOfTurn_11 (by decide) ?_
    refine lv_goto (tgt := 23) hx hb d_Model_microsecondsOfTurn_12 rfl ?_
    exact W.lret hx hb hr (fun t ht hW => ⟨(by rw [F_Model_microsecondsOfTurn, if_neg h1]), ht⟩) (fun _ h => absurd h List.not_mem_nil) d_Model_microsecondsOfTurn_23
abbrev bc_Model_countInTick : ByteArray := prog_4_method_4_code
def y_Model_countInTick : MethodName := ⟨"CentrifugeUnit$Model", "countInTick", "()J"⟩
theorem d_Model_countInTick_0 : decode bc_Model_countInTick 0 = .ok (.aload_n 0, 1) := by decide +kernel
theorem d_Model_countInTick_1 : decode bc_Model_countInTick 1 = .ok (.getfield 13, 3) := by decide +kernel
theorem d_Model_countInTick_4 : decode bc_Model_countInTick 4 = .ok (.ldc2_w 25, 3) := by decide +kernel
theorem d_Model_countInTick_7 : decode bc_Model_countInTick 7 = .ok (.ldiv, 1) := by decide +kernel
theorem d_Model_countInTick_8 : decode bc_Model_countInTick 8 = .ok (.lreturn, 1) := by decide +kernel
def F_Model_countInTick (M : XM) : Int64 := ((M.2.1 0) / 10000)
set_option maxHeartbeats 4000000 in
set_option maxRecDepth 100000 in
theorem c_Model_countInTick (l : Launch) (dC : Nat → ClassId) (dI : Nat → Nat → Nat) (Z : Nat → ClassId) (A : Nat → Nat) (sz : Nat) (M : XM) : Met l y_Model_countInTick (.code y_Model_countInTick bc_Model_countInTick 1 (some .long) :: xw) ({ frames := 0, cells := 0, slots := 0, locals := 0 }) (va_Pc [.ref (A 10)] (xB (dC, dI) xcl (xty Z) sz [(A 10, xc10 Z A M)])) (k2_QcV (.long (F_Model_countInTick M))) 0 0 (fun _ => False) := by
  refine Met.ofW (cc := bc_Model_countInTick) (maxL := 1) (ret := (some .long)) (by decide) rfl ?_
  intro p e s m args below meth c s₁ B hml hv
  obtain ⟨rfl, hsz, hP, hK, hD0, hq⟩ := hv
  have hx := B.exec
  have hb := B.bytes
  have hr := B.returns
  have hts := atoms_spec (ws := (.code y_Model_countInTick bc_Model_countInTick 1 (some .long) :: xw)) B.pre
  have htt : ∀ w ∈ xw, w.before _ s = true := fun w h => hts w (List.mem_cons_of_mem _ h)
  have hown : s.vm.findClass "CentrifugeUnit$Model" = some m.cls := findClass_of_methodNamed B.named
  have hlocks := B.notSynchronized
  subst hsz
  have hD : va_D (fun _ => True) [(A 10, .inr (2, [.long (M.2.1 0)]))] := hD0
  have hP : va_P (dC, dI) xcl [(A 10, .inr (2, [.long (M.2.1 0)]))] s.heap := hP
  have hl := lv_entry ([.ref (A 10)]) (n := 1) (Nat.le_of_ble_eq_true rfl)
  rw [lg_entry_eq]
  generalize (lg_sl ([.ref (A 10)]) ++ List.replicate (1 - (lg_sl ([.ref (A 10)])).length) Slot.unset).toArray = ls at hl ⊢
  have hl : lv_has ls 1 [(0, .ref (A 10))] := hl
  refine lv_aload_n hx hb d_Model_countInTick_0 rfl (lv_at hl 0 rfl) ?_
  refine va_get (D := (dC, dI)) (ci := 2) (v := .long (M.2.1 0)) (C := "CentrifugeUnit$Model") (T := xF2) (N := 1) hx hb htt xin2 hown hK hP 0 rfl rfl 0 (by decide) (htt _ tw_84) (fun _ h9 => h9) rfl d_Model_countInTick_1 ?_
  refine lv_ldc2 (v := 10000) hx hb hown (htt _ tw_603) d_Model_countInTick_4 ?_
  refine lv_ldiv hx hb d_Model_countInTick_7 (by decide) ?_
  exact W.lret hx hb hr (fun t ht hW => ⟨(by rw [F_Model_countInTick]), ht⟩) (fun _ h => absurd h List.not_mem_nil) d_Model_countInTick_8
abbrev bc_Model_move : ByteArray := prog_4_method_2_code
def y_Model_move : MethodName := ⟨"CentrifugeUnit$Model", "move", "(III)V"⟩
theorem d_Model_move_0 : decode bc_Model_move 0 = .ok (.iconst 1, 1) := by decide +kernel
theorem d_Model_move_1 : decode bc_Model_move 1 = .ok (.iload_n 3, 1) := by decide +kernel
theorem d_Model_move_2 : decode bc_Model_move 2 = .ok (.invokestatic 7, 3) := by decide +kernel
theorem d_Model_move_5 : decode bc_Model_move 5 = .ok (.i2l, 1) := by decide +kernel
theorem d_Model_move_6 : decode bc_Model_move 6 = .ok (.lstore 4, 2) := by decide +kernel
theorem d_Model_move_8 : decode bc_Model_move 8 = .ok (.aload_n 0, 1) := by decide +kernel
theorem d_Model_move_9 : decode bc_Model_move 9 = .ok (.dup, 1) := by decide +kernel
theorem d_Model_move_10 : decode bc_Model_move 10 = .ok (.getfield 13, 3) := by decide +kernel
theorem d_Model_move_13 : decode bc_Model_move 13 = .ok (.ldc2_w 19, 3) := by decide +kernel
theorem d_Model_move_16 : decode bc_Model_move 16 = .ok (.iload_n 1, 1) := by decide +kernel
theorem d_Model_move_17 : decode bc_Model_move 17 = .ok (.i2l, 1) := by decide +kernel
theorem d_Model_move_18 : decode bc_Model_move 18 = .ok (.lmul, 1) := by decide +kernel
theorem d_Model_move_19 : decode bc_Model_move 19 = .ok (.lload 4, 2) := by decide +kernel
theorem d_Model_move_21 : decode bc_Model_move 21 = .ok (.ldiv, 1) := by decide +kernel
theorem d_Model_move_22 : decode bc_Model_move 22 = .ok (.ladd, 1) := by decide +kernel
theorem d_Model_move_23 : decode bc_Model_move 23 = .ok (.putfield 13, 3) := by decide +kernel
theorem d_Model_move_26 : decode bc_Model_move 26 = .ok (.aload_n 0, 1) := by decide +kernel
theorem d_Model_move_27 : decode bc_Model_move 27 = .ok (.getfield 13, 3) := by decide +kernel
theorem d_Model_move_30 : decode bc_Model_move 30 = .ok (.ldc2_w 21, 3) := by decide +kernel
theorem d_Model_move_33 : decode bc_Model_move 33 = .ok (.ldiv, 1) := by decide +kernel
theorem d_Model_move_34 : decode bc_Model_move 34 = .ok (.ldc2_w 23, 3) := by decide +kernel
theorem d_Model_move_37 : decode bc_Model_move 37 = .ok (.ladd, 1) := by decide +kernel
theorem d_Model_move_38 : decode bc_Model_move 38 = .ok (.lstore 6, 2) := by decide +kernel
theorem d_Model_move_40 : decode bc_Model_move 40 = .ok (.ldc2_w 25, 3) := by decide +kernel
theorem d_Model_move_43 : decode bc_Model_move 43 = .ok (.iload_n 2, 1) := by decide +kernel
theorem d_Model_move_44 : decode bc_Model_move 44 = .ok (.i2l, 1) := by decide +kernel
theorem d_Model_move_45 : decode bc_Model_move 45 = .ok (.lmul, 1) := by decide +kernel
theorem d_Model_move_46 : decode bc_Model_move 46 = .ok (.lload 4, 2) := by decide +kernel
theorem d_Model_move_48 : decode bc_Model_move 48 = .ok (.ldiv, 1) := by decide +kernel
theorem d_Model_move_49 : decode bc_Model_move 49 = .ok (.lstore 8, 2) := by decide +kernel
theorem d_Model_move_51 : decode bc_Model_move 51 = .ok (.aload_n 0, 1) := by decide +kernel
theorem d_Model_move_52 : decode bc_Model_move 52 = .ok (.lconst 0, 1) := by decide +kernel
theorem d_Model_move_53 : decode bc_Model_move 53 = .ok (.aload_n 0, 1) := by decide +kernel
theorem d_Model_move_54 : decode bc_Model_move 54 = .ok (.getfield 13, 3) := by decide +kernel
theorem d_Model_move_57 : decode bc_Model_move 57 = .ok (.lload 6, 2) := by decide +kernel
theorem d_Model_move_59 : decode bc_Model_move 59 = .ok (.lsub, 1) := by decide +kernel
theorem d_Model_move_60 : decode bc_Model_move 60 = .ok (.lload 8, 2) := by decide +kernel
theorem d_Model_move_62 : decode bc_Model_move 62 = .ok (.lsub, 1) := by decide +kernel
theorem d_Model_move_63 : decode bc_Model_move 63 = .ok (.invokestatic 27, 3) := by decide +kernel
theorem d_Model_move_66 : decode bc_Model_move 66 = .ok (.putfield 13, 3) := by decide +kernel
theorem d_Model_move_69 : decode bc_Model_move 69 = .ok (.return_, 1) := by decide +kernel
abbrev ap_Model_move (M : XM) (u : Int64) : XM := (M.1, (va_up M.2.1 0 u), M.2.2)
def F_Model_move_k2 (M : XM) (a1 : Int32) (a2 : Int32) (a3 : Int32) (z1 : Int32) (z2 : Int64) : (Int64) := z2
def F_Model_move_k1 (M : XM) (a1 : Int32) (a2 : Int32) (a3 : Int32) (z1 : Int32) : (Int64) := (F_Model_move_k2 M a1 a2 a3 z1 (if ((((M.2.1 0) + ((1000 * (a1).toInt64) / (z1).toInt64)) - ((((M.2.1 0) + ((1000 * (a1).toInt64) / (z1).toInt64)) / 2000) + 200)) - ((10000 * (a2).toInt64) / (z1).toInt64)) < 0 then 0 else ((((M.2.1 0) + ((1000 * (a1).toInt64) / (z1).toInt64)) - ((((M.2.1 0) + ((1000 * (a1).toInt64) / (z1).toInt64)) / 2000) + 200)) - ((10000 * (a2).toInt64) / (z1).toInt64))))
def F_Model_move (M : XM) (a1 : Int32) (a2 : Int32) (a3 : Int32) : (Int64) := (F_Model_move_k1 M a1 a2 a3 (if 1 < a3 then a3 else 1))
set_option maxHeartbeats 4000000 in
set_option maxRecDepth 100000 in
theorem c_Model_move (l : Launch) (dC : Nat → ClassId) (dI : Nat → Nat → Nat) (Z : Nat → ClassId) (A : Nat → Nat) (sz : Nat) (M : XM) (a1 : Int32) (a2 : Int32) (a3 : Int32) : Met l y_Model_move (.code y_Model_move bc_Model_move 10 none :: xw) ({ frames := 1, cells := 0, slots := 0, locals := 23 }) (va_Pc [.ref (A 10), .int a1, .int a2, .int a3] (xB (dC, dI) xcl (xty Z) sz [(A 10, xc10 Z A M)])) (va_Qv (fun u : Int64 => u = F_Model_move M a1 a2 a3) (fun u => xE (dC, dI) xcl (xty Z) (va_A [(A 10, xc10 Z A M)] sz) [(A 10, xc10 Z A (ap_Model_move M u))]) (va_A [(A 10, xc10 Z A M)] sz)) 0 0 (va_A [(A 10, xc10 Z A M)] sz) := by
  refine Met.ofW (cc := bc_Model_move) (maxL := 10) (ret := none) (by decide) rfl ?_
  intro p e s m args below meth c s₁ B hml hv
  obtain ⟨rfl, hsz, hP, hK, hD0, hq⟩ := hv
  have hx := B.exec
  have hb := B.bytes
  have hr := B.returns
  have hts := atoms_spec (ws := (.code y_Model_move bc_Model_move 10 none :: xw)) B.pre
  have htt : ∀ w ∈ xw, w.before _ s = true := fun w h => hts w (List.mem_cons_of_mem _ h)
  have hown : s.vm.findClass "CentrifugeUnit$Model" = some m.cls := findClass_of_methodNamed B.named
  have hlocks := B.notSynchronized
  subst hsz
  have hD := hD0.self (sz := s.heap.size)
  generalize hAe : va_A [(A 10, xc10 Z A M)] s.heap.size = AA at hD ⊢
  have hA : ∀ q : Nat, s.heap.size ≤ q → AA q := fun q h => by rw [← hAe]; exact Or.inr h
  have hS : va_S AA s.heap s.heap [] := va_S.rf
  have hP : va_P (dC, dI) xcl [(A 10, .inr (2, [.long (M.2.1 0)]))] s.heap := hP
  have hD : va_D AA [(A 10, .inr (2, [.long (M.2.1 0)]))] := hD
  have hl := lv_entry ([.ref (A 10), .int a1, .int a2, .int a3]) (n := 10) (Nat.le_of_ble_eq_true rfl)
  rw [lg_entry_eq]
  generalize (lg_sl ([.ref (A 10), .int a1, .int a2, .int a3]) ++ List.replicate (10 - (lg_sl ([.ref (A 10), .int a1, .int a2, .int a3])).length) Slot.unset).toArray = ls at hl ⊢
  have hl : lv_has ls 10 [(0, .ref (A 10)), (1, .int a1), (2, .int a2), (3, .int a3)] := hl
  refine lv_iconst (v := 1) hx hb d_Model_move_0 (by decide) ?_
  refine lv_iload_n hx hb d_Model_move_1 rfl (lv_at hl 3 rfl) ?_
  refine va_mmax hx hb (hml.trans hl.1.symm) hown (htt _ tw_725) (htt _ tw_611) (htt _ tw_18) (htt _ tw_612) (Nat.le_of_ble_eq_true rfl) (Nat.le_of_ble_eq_true rfl) (Nat.le_of_ble_eq_true rfl) (Nat.le_of_ble_eq_true rfl) d_Model_move_2 ?_
  refine lv_topi (fun z1 hz1 => ?_)
  refine lv_i2l (v := (z1).toInt64) hx hb d_Model_move_5 rfl ?_
  refine lv_lstore (lv' := [(4, .long (z1).toInt64), (0, .ref (A 10)), (1, .int a1), (2, .int a2), (3, .int a3)]) hx hb d_Model_move_6 hl (by decide) rfl (fun ls hl => ?_)
  refine lv_aload_n hx hb d_Model_move_8 rfl (lv_at hl 1 rfl) ?_
  refine lv_dup hx hb d_Model_move_9 rfl ?_
  refine va_get (D := (dC, dI)) (ci := 2) (v := .long (M.2.1 0)) (C := "CentrifugeUnit$Model") (T := xF2) (N := 1) hx hb htt xin2 hown hK hP 0 rfl rfl 0 (by decide) (htt _ tw_84) (fun _ h9 => h9) rfl d_Model_move_10 ?_
  refine lv_ldc2 (v := 1000) hx hb hown (htt _ tw_726) d_Model_move_13 ?_
  refine lv_iload_n hx hb d_Model_move_16 rfl (lv_at hl 2 rfl) ?_
  refine lv_i2l (v := (a1).toInt64) hx hb d_Model_move_17 rfl ?_
  refine lv_lmul hx hb d_Model_move_18 ?_
  refine lv_lload hx hb d_Model_move_19 (lv_at hl 0 rfl) ?_
  refine lv_ldiv hx hb d_Model_move_21 (xw1 hz1) ?_
  refine lv_ladd hx hb d_Model_move_22 ?_
  refine va_put (D := (dC, dI)) (ci := 2) (v := .long ((M.2.1 0) + ((1000 * (a1).toInt64) / (z1).toInt64))) (ty := .long) (C := "CentrifugeUnit$Model") (T := xF2) (N := 1) hx hb htt xin2 xT2 xTo2 xNm2 hown hK hP hD hS 0 rfl rfl 0 (by decide) (htt _ tw_84) (fun _ h9 => h9) rfl (by decide +kernel) rfl rfl (Nat.le_of_ble_eq_true rfl) d_Model_move_23 (fun H locs hP hD hS => ?_)
  have hP : va_P (dC, dI) xcl [(A 10, .inr (2, [.long ((M.2.1 0) + ((1000 * (a1).toInt64) / (z1).toInt64))]))] H := hP
  have hD : va_D AA [(A 10, .inr (2, [.long ((M.2.1 0) + ((1000 * (a1).toInt64) / (z1).toInt64))]))] := hD
  refine lv_aload_n hx hb d_Model_move_26 rfl (lv_at hl 1 rfl) ?_
  refine va_get (D := (dC, dI)) (ci := 2) (v := .long ((M.2.1 0) + ((1000 * (a1).toInt64) / (z1).toInt64))) (C := "CentrifugeUnit$Model") (T := xF2) (N := 1) hx hb htt xin2 hown hK hP 0 rfl rfl 0 (by decide) (htt _ tw_84) (fun _ h9 => h9) rfl d_Model_move_27 ?_
  refine lv_ldc2 (v := 2000) hx hb hown (htt _ tw_727) d_Model_move_30 ?_
  refine lv_ldiv hx hb d_Model_move_33 (by decide) ?_
  refine lv_ldc2 (v := 200) hx hb hown (htt _ tw_728) d_Model_move_34 ?_
  refine lv_ladd hx hb d_Model_move_37 ?_
  refine lv_lstore (lv' := [(6, .long ((((M.2.1 0) + ((1000 * (a1).toInt64) / (z1).toInt64)) / 2000) + 200)), (4, .long (z1).toInt64), (0, .ref (A 10)), (1, .int a1), (2, .int a2), (3, .int a3)]) hx hb d_Model_move_38 hl (by decide) rfl (fun ls hl => ?_)
  refine lv_ldc2 (v := 10000) hx hb hown (htt _ tw_603) d_Model_move_40 ?_
  refine lv_iload_n hx hb d_Model_move_43 rfl (lv_at hl 4 rfl) ?_
  refine lv_i2l (v := (a2).toInt64) hx hb d_Model_move_44 rfl ?_
  refine lv_lmul hx hb d_Model_move_45 ?_
  refine lv_lload hx hb d_Model_move_46 (lv_at hl 1 rfl) ?_
  refine lv_ldiv hx hb d_Model_move_48 (xw1 hz1) ?_
  refine lv_lstore (lv' := [(8, .long ((10000 * (a2).toInt64) / (z1).toInt64)), (6, .long ((((M.2.1 0) + ((1000 * (a1).toInt64) / (z1).toInt64)) / 2000) + 200)), (4, .long (z1).toInt64), (0, .ref (A 10)), (1, .int a1), (2, .int a2), (3, .int a3)]) hx hb d_Model_move_49 hl (by decide) rfl (fun ls hl => ?_)
  refine lv_aload_n hx hb d_Model_move_51 rfl (lv_at hl 3 rfl) ?_
  refine lv_lconst (v := 0) hx hb d_Model_move_52 (by decide) ?_
  refine lv_aload_n hx hb d_Model_move_53 rfl (lv_at hl 3 rfl) ?_
  refine va_get (D := (dC, dI)) (ci := 2) (v := .long ((M.2.1 0) + ((1000 * (a1).toInt64) / (z1).toInt64))) (C := "CentrifugeUnit$Model") (T := xF2) (N := 1) hx hb htt xin2 hown hK hP 0 rfl rfl 0 (by decide) (htt _ tw_84) (fun _ h9 => h9) rfl d_Model_move_54 ?_
  refine lv_lload hx hb d_Model_move_57 (lv_at hl 1 rfl) ?_
  refine lv_lsub hx hb d_Model_move_59 ?_
  refine lv_lload hx hb d_Model_move_60 (lv_at hl 0 rfl) ?_
  refine lv_lsub hx hb d_Model_move_62 ?_
  refine va_mmax_long hx hb (hml.trans hl.1.symm) hown (htt _ tw_729) (htt _ tw_730) (htt _ tw_18) (htt _ tw_731) (Nat.le_of_ble_eq_true rfl) (Nat.le_of_ble_eq_true rfl) (Nat.le_of_ble_eq_true rfl) (Nat.le_of_ble_eq_true rfl) d_Model_move_63 ?_
  refine lv_topl (fun z2 hz2 => ?_)
  refine va_put (D := (dC, dI)) (ci := 2) (v := .long z2) (ty := .long) (C := "CentrifugeUnit$Model") (T := xF2) (N := 1) hx hb htt xin2 xT2 xTo2 xNm2 hown hK hP hD hS 0 rfl rfl 0 (by decide) (htt _ tw_84) (fun _ h9 => h9) rfl (by decide +kernel) rfl rfl (Nat.le_of_ble_eq_true rfl) d_Model_move_66 (fun H locs hP hD hS => ?_)
  have hP : va_P (dC, dI) xcl [(A 10, .inr (2, [.long z2]))] H := hP
  have hD : va_D AA [(A 10, .inr (2, [.long z2]))] := hD
  have hP9 := hP.sub (ws' := [(A 10, xc10 Z A (ap_Model_move M z2))]) [0] rfl
  have hD9 := hD.sub (ws' := [(A 10, xc10 Z A (ap_Model_move M z2))]) [0] (by decide) rfl
  exact W.vret hx hb hr (fun t ht hW => ⟨⟨z2, rfl, (by rw [F_Model_move, ← hz1, F_Model_move_k1, ← hz2, F_Model_move_k2]), xE_at hP9 hK hD9 ht hW⟩, hS.F ht⟩) hS.2.2 d_Model_move_69
abbrev bc_Records_keeps : ByteArray := prog_6_method_3_code
def y_Records_keeps : MethodName := ⟨"CentrifugeUnit$Records", "keeps", "(I)Z"⟩
theorem d_Records_keeps_0 : decode bc_Records_keeps 0 = .ok (.iload_n 1, 1) := by decide +kernel
theorem d_Records_keeps_1 : decode bc_Records_keeps 1 = .ok (.ifCond .lt 26, 3) := by decide +kernel
theorem d_Records_keeps_4 : decode bc_Records_keeps 4 = .ok (.iload_n 1, 1) := by decide +kernel
theorem d_Records_keeps_5 : decode bc_Records_keeps 5 = .ok (.aload_n 0, 1) := by decide +kernel
theorem d_Records_keeps_6 : decode bc_Records_keeps 6 = .ok (.getfield 20, 3) := by decide +kernel
theorem d_Records_keeps_9 : decode bc_Records_keeps 9 = .ok (.if_icmp .ge 18, 3) := by decide +kernel
theorem d_Records_keeps_12 : decode bc_Records_keeps 12 = .ok (.iload_n 1, 1) := by decide +kernel
theorem d_Records_keeps_13 : decode bc_Records_keeps 13 = .ok (.aload_n 0, 1) := by decide +kernel
theorem d_Records_keeps_14 : decode bc_Records_keeps 14 = .ok (.getfield 20, 3) := by decide +kernel
theorem d_Records_keeps_17 : decode bc_Records_keeps 17 = .ok (.bipush 16, 2) := by decide +kernel
theorem d_Records_keeps_19 : decode bc_Records_keeps 19 = .ok (.isub, 1) := by decide +kernel
theorem d_Records_keeps_20 : decode bc_Records_keeps 20 = .ok (.if_icmp .lt 7, 3) := by decide +kernel
theorem d_Records_keeps_23 : decode bc_Records_keeps 23 = .ok (.iconst 1, 1) := by decide +kernel
theorem d_Records_keeps_24 : decode bc_Records_keeps 24 = .ok (.goto 4, 3) := by decide +kernel
theorem d_Records_keeps_27 : decode bc_Records_keeps 27 = .ok (.iconst 0, 1) := by decide +kernel
theorem d_Records_keeps_28 : decode bc_Records_keeps 28 = .ok (.ireturn, 1) := by decide +kernel
def F_Records_keeps (M : XM) (a1 : Int32) : Int32 := (if a1 < 0 then 0 else (if (M.1 11) ≤ a1 then 0 else (if a1 < ((M.1 11) - 16) then 0 else 1)))
theorem f01_Records_keeps (M : XM) (a1 : Int32) : F_Records_keeps M a1 = 0 ∨ F_Records_keeps M a1 = 1 := by
  simp only [F_Records_keeps]; repeat' split
  all_goals first | exact Or.inl rfl | exact Or.inr rfl | simp
set_option maxHeartbeats 4000000 in
set_option maxRecDepth 100000 in
theorem c_Records_keeps (l : Launch) (dC : Nat → ClassId) (dI : Nat → Nat → Nat) (Z : Nat → ClassId) (A : Nat → Nat) (sz : Nat) (M : XM) (a1 : Int32) : Met l y_Records_keeps (.code y_Records_keeps bc_Records_keeps 2 (some .boolean) :: xw) ({ frames := 0, cells := 0, slots := 0, locals := 0 }) (va_Pc [.ref (A 13), .int a1] (xB (dC, dI) xcl (xty Z) sz [(A 13, xc13 Z A M)])) (k2_QcV (.int (F_Records_keeps M a1))) 0 0 (fun _ => False) := by
  refine Met.ofW (cc := bc_Records_keeps) (maxL := 2) (ret := (some .boolean)) (by decide) rfl ?_
  intro p e s m args below meth c s₁ B hml hv
  obtain ⟨rfl, hsz, hP, hK, hD0, hq⟩ := hv
  have hx := B.exec
  have hb := B.bytes
  have hr := B.returns
  have hts := atoms_spec (ws := (.code y_Records_keeps bc_Records_keeps 2 (some .boolean) :: xw)) B.pre
  have htt : ∀ w ∈ xw, w.before _ s = true := fun w h => hts w (List.mem_cons_of_mem _ h)
  have hown : s.vm.findClass "CentrifugeUnit$Records" = some m.cls := findClass_of_methodNamed B.named
  have hlocks := B.notSynchronized
  subst hsz
  have hD : va_D (fun _ => True) [(A 13, .inr (4, [.ref (A 14), .ref (A 15), .ref (A 16), .int (M.1 11)]))] := hD0
  have hP : va_P (dC, dI) xcl [(A 13, .inr (4, [.ref (A 14), .ref (A 15), .ref (A 16), .int (M.1 11)]))] s.heap := hP
  have hl := lv_entry ([.ref (A 13), .int a1]) (n := 2) (Nat.le_of_ble_eq_true rfl)
  rw [lg_entry_eq]
  generalize (lg_sl ([.ref (A 13), .int a1]) ++ List.replicate (2 - (lg_sl ([.ref (A 13), .int a1])).length) Slot.unset).toArray = ls at hl ⊢
  have hl : lv_has ls 2 [(0, .ref (A 13)), (1, .int a1)] := hl
  refine lv_iload_n hx hb d_Records_keeps_0 rfl (lv_at hl 1 rfl) ?_
  refine lv_if_lt (tgt := 27) hx hb d_Records_keeps_1 rfl (fun h1 => ?_) (fun h1 => ?_)
  · refine lv_iconst (v := 0) hx hb d_Records_keeps_27 (by decide) ?_
    exact W.zret (ty := .boolean) hx hb hr rfl (fun t ht hW => ⟨(by rw [F_Records_keeps, if_pos h1]), ht⟩) (fun _ h => absurd h List.not_mem_nil) d_Records_keeps_28
  · refine lv_iload_n hx hb d_Records_keeps_4 rfl (lv_at hl 1 rfl) ?_
    refine lv_aload_n hx hb d_Records_keeps_5 rfl (lv_at hl 0 rfl) ?_
    refine va_get (D := (dC, dI)) (ci := 4) (v := .int (M.1 11)) (C := "CentrifugeUnit$Records") (T := xF4) (N := 4) hx hb htt xin4 hown hK hP 0 rfl rfl 3 (by decide) (htt _ tw_150) (fun _ h9 => h9) rfl d_Records_keeps_6 ?_
    refine lv_icmp_ge (tgt := 27) hx hb d_Records_keeps_9 rfl (fun h2 => ?_) (fun h2 => ?_)
    · refine lv_iconst (v := 0) hx hb d_Records_keeps_27 (by decide) ?_
      exact W.zret (ty := .boolean) hx hb hr rfl (fun t ht hW => ⟨(by rw [F_Records_keeps, if_neg h1, if_pos h2]), ht⟩) (fun _ h => absurd h List.not_mem_nil) d_Records_keeps_28
    · refine lv_iload_n hx hb d_Records_keeps_12 rfl (lv_at hl 1 rfl) ?_
      refine lv_aload_n hx hb d_Records_keeps_13 rfl (lv_at hl 0 rfl) ?_
      refine va_get (D := (dC, dI)) (ci := 4) (v := .int (M.1 11)) (C := "CentrifugeUnit$Records") (T := xF4) (N := 4) hx hb htt xin4 hown hK hP 0 rfl rfl 3 (by decide) (htt _ tw_150) (fun _ h9 => h9) rfl d_Records_keeps_14 ?_
      refine lv_bipush (v := 16) hx hb d_Records_keeps_17 (by decide) ?_
      refine lv_isub hx hb d_Records_keeps_19 ?_
      refine lv_icmp_lt (tgt := 27) hx hb d_Records_keeps_20 rfl (fun h3 => ?_) (fun h3 => ?_)
      · refine lv_iconst (v := 0) hx hb d_Records_keeps_27 (by decide) ?_
        exact W.zret (ty := .boolean) hx hb hr rfl (fun t ht hW => ⟨(by rw [F_Records_keeps, if_neg h1, if_neg h2, if_pos h3]), ht⟩) (fun _ h => absurd h List.not_mem_nil) d_Records_keeps_28
      · refine lv_iconst (v := 1) hx hb d_Records_keeps_23 (by decide) ?_
        refine lv_goto (tgt := 28) hx hb d_Records_keeps_24 rfl ?_
        exact W.zret (ty := .boolean) hx hb hr rfl (fun t ht hW => ⟨(by rw [F_Records_keeps, if_neg h1, if_neg h2, if_neg h3]), ht⟩) (fun _ h => absurd h List.not_mem_nil) d_Records_keeps_28
abbrev bc_Records_entry : ByteArray := prog_6_method_4_code
def y_Records_entry : MethodName := ⟨"CentrifugeUnit$Records", "entry", "(II)J"⟩
theorem d_Records_entry_0 : decode bc_Records_entry 0 = .ok (.iload_n 1, 1) := by decide +kernel
theorem d_Records_entry_1 : decode bc_Records_entry 1 = .ok (.bipush 16, 2) := by decide +kernel
theorem d_Records_entry_3 : decode bc_Records_entry 3 = .ok (.invokestatic 24, 3) := by decide +kernel
theorem d_Records_entry_6 : decode bc_Records_entry 6 = .ok (.istore_n 3, 1) := by decide +kernel
theorem d_Records_entry_7 : decode bc_Records_entry 7 = .ok (.iload_n 2, 1) := by decide +kernel
theorem d_Records_entry_8 : decode bc_Records_entry 8 = .ok (.lookupswitch 43 #[(0, 28), (1, 36)], 28) := by decide +kernel
theorem d_Records_entry_36 : decode bc_Records_entry 36 = .ok (.aload_n 0, 1) := by decide +kernel
theorem d_Records_entry_37 : decode bc_Records_entry 37 = .ok (.getfield 9, 3) := by decide +kernel
theorem d_Records_entry_40 : decode bc_Records_entry 40 = .ok (.iload_n 3, 1) := by decide +kernel
theorem d_Records_entry_41 : decode bc_Records_entry 41 = .ok (.iaload, 1) := by decide +kernel
theorem d_Records_entry_42 : decode bc_Records_entry 42 = .ok (.i2l, 1) := by decide +kernel
theorem d_Records_entry_43 : decode bc_Records_entry 43 = .ok (.lreturn, 1) := by decide +kernel
theorem d_Records_entry_44 : decode bc_Records_entry 44 = .ok (.aload_n 0, 1) := by decide +kernel
theorem d_Records_entry_45 : decode bc_Records_entry 45 = .ok (.getfield 13, 3) := by decide +kernel
theorem d_Records_entry_48 : decode bc_Records_entry 48 = .ok (.iload_n 3, 1) := by decide +kernel
theorem d_Records_entry_49 : decode bc_Records_entry 49 = .ok (.laload, 1) := by decide +kernel
theorem d_Records_entry_50 : decode bc_Records_entry 50 = .ok (.lreturn, 1) := by decide +kernel
theorem d_Records_entry_51 : decode bc_Records_entry 51 = .ok (.aload_n 0, 1) := by decide +kernel
theorem d_Records_entry_52 : decode bc_Records_entry 52 = .ok (.getfield 17, 3) := by decide +kernel
theorem d_Records_entry_55 : decode bc_Records_entry 55 = .ok (.iload_n 3, 1) := by decide +kernel
theorem d_Records_entry_56 : decode bc_Records_entry 56 = .ok (.iaload, 1) := by decide +kernel
theorem d_Records_entry_57 : decode bc_Records_entry 57 = .ok (.i2l, 1) := by decide +kernel
theorem d_Records_entry_58 : decode bc_Records_entry 58 = .ok (.lreturn, 1) := by decide +kernel
def F_Records_entry_k1 (M : XM) (a1 : Int32) (a2 : Int32) (z1 : Int32) : Int64 := (if a2 = 0 then (((M.2.2.1 14) (z1).toNatClampNeg)).toInt64 else (if a2 = 1 then ((M.2.2.2 15) (z1).toNatClampNeg) else (((M.2.2.1 16) (z1).toNatClampNeg)).toInt64))
def F_Records_entry (M : XM) (a1 : Int32) (a2 : Int32) : Int64 := (F_Records_entry_k1 M a1 a2 (F_Math_floorMod M a1 16))
set_option maxHeartbeats 4000000 in
set_option maxRecDepth 100000 in
theorem c_Records_entry (l : Launch) (dC : Nat → ClassId) (dI : Nat → Nat → Nat) (Z : Nat → ClassId) (A : Nat → Nat) (sz : Nat) (M : XM) (a1 : Int32) (a2 : Int32) : Met l y_Records_entry (.code y_Records_entry bc_Records_entry 4 (some .long) :: xw) ({ frames := 1, cells := 0, slots := 0, locals := 22 }) (va_Pc [.ref (A 13), .int a1, .int a2] (xB (dC, dI) xcl (xty Z) sz [(A 13, xc13 Z A M), (A 14, xc14 Z A M), (A 15, xc15 Z A M), (A 16, xc16 Z A M)])) (k2_QcV (.long (F_Records_entry M a1 a2))) 0 0 (fun _ => False) := by
  refine Met.ofW (cc := bc_Records_entry) (maxL := 4) (ret := (some .long)) (by decide) rfl ?_
  intro p e s m args below meth c s₁ B hml hv
  obtain ⟨rfl, hsz, hP, hK, hD0, hq⟩ := hv
  have hx := B.exec
  have hb := B.bytes
  have hr := B.returns
  have hts := atoms_spec (ws := (.code y_Records_entry bc_Records_entry 4 (some .long) :: xw)) B.pre
  have htt : ∀ w ∈ xw, w.before _ s = true := fun w h => hts w (List.mem_cons_of_mem _ h)
  have hown : s.vm.findClass "CentrifugeUnit$Records" = some m.cls := findClass_of_methodNamed B.named
  have hlocks := B.notSynchronized
  subst hsz
  have hD : va_D (fun _ => True) [(A 13, .inr (4, [.ref (A 14), .ref (A 15), .ref (A 16), .int (M.1 11)])), (A 14, .inl (Z 0, 16, .inl (M.2.2.1 14))), (A 15, .inl (Z 1, 16, .inr (.inl (M.2.2.2 15)))), (A 16, .inl (Z 0, 16, .inl (M.2.2.1 16)))] := hD0
  have hP : va_P (dC, dI) xcl [(A 13, .inr (4, [.ref (A 14), .ref (A 15), .ref (A 16), .int (M.1 11)])), (A 14, .inl (Z 0, 16, .inl (M.2.2.1 14))), (A 15, .inl (Z 1, 16, .inr (.inl (M.2.2.2 15)))), (A 16, .inl (Z 0, 16, .inl (M.2.2.1 16)))] s.heap := hP
  have hl := lv_entry ([.ref (A 13), .int a1, .int a2]) (n := 4) (Nat.le_of_ble_eq_true rfl)
  rw [lg_entry_eq]
  generalize (lg_sl ([.ref (A 13), .int a1, .int a2]) ++ List.replicate (4 - (lg_sl ([.ref (A 13), .int a1, .int a2])).length) Slot.unset).toArray = ls at hl ⊢
  have hl : lv_has ls 4 [(0, .ref (A 13)), (1, .int a1), (2, .int a2)] := hl
  refine lv_iload_n hx hb d_Records_entry_0 rfl (lv_at hl 1 rfl) ?_
  refine lv_bipush (v := 16) hx hb d_Records_entry_1 (by decide) ?_
  have hPc := hP.sub (ws' := []) [] rfl
  have hDc := hD.sub (ws' := []) [] (by decide) rfl
  refine xk_p (va_runS (As := [.int a1, .int 16]) (rest := []) ⟨hx, hb, hml, hown, hts⟩ (c_Math_floorMod l dC dI Z A _ M a1 16 (by decide)) (va_cwS 2 hts (xw_S _ tw_710 tw_711 tw_18 tw_712) rfl rfl rfl (by decide +kernel) ⟨Nat.le_of_ble_eq_true rfl, Nat.le_of_ble_eq_true rfl⟩) ⟨xB_blind, fun U hU hW => ⟨rfl, xB_at hPc hK hDc hq U hU hW⟩⟩ rfl rfl hl.1 rfl (lv_room (Nat.le_of_ble_eq_true rfl)) d_Records_entry_3 ⟨Nat.le_of_ble_eq_true rfl, Nat.le_of_ble_eq_true rfl⟩) ?_
  refine lv_topi (fun z1 hz1 => ?_)
  refine lv_istore_n (lv' := [(3, .int z1), (0, .ref (A 13)), (1, .int a1), (2, .int a2)]) hx hb d_Records_entry_6 rfl hl (by decide) rfl (fun ls hl => ?_)
  refine lv_iload_n hx hb d_Records_entry_7 rfl (lv_at hl 3 rfl) ?_
  by_cases h2 : a2 = 0
  · refine lv_lookup (off := 28) (tgt := 36) hx hb d_Records_entry_8 (by decide) (by rw [h2]; decide) rfl ?_
    refine lv_aload_n hx hb d_Records_entry_36 rfl (lv_at hl 1 rfl) ?_
    refine va_get (D := (dC, dI)) (ci := 4) (v := .ref (A 14)) (C := "CentrifugeUnit$Records") (T := xF4) (N := 4) hx hb htt xin4 hown hK hP 0 rfl rfl 0 (by decide) (htt _ tw_147) (fun _ h9 => h9) rfl d_Records_entry_37 ?_
    refine lv_iload_n hx hb d_Records_entry_40 rfl (lv_at hl 0 rfl) ?_
    refine va_iald (D := (dC, dI)) hx hb hK hP 1 0 rfl rfl (by rw [hz1]; exact xfm16 _ _) d_Records_entry_41 ?_
    refine lv_i2l (v := (((M.2.2.1 14) (z1).toNatClampNeg)).toInt64) hx hb d_Records_entry_42 rfl ?_
    exact W.lret hx hb hr (fun t ht hW => ⟨(by rw [F_Records_entry, ← hz1, F_Records_entry_k1, if_pos h2]), ht⟩) (fun _ h => absurd h List.not_mem_nil) d_Records_entry_43
  by_cases h3 : a2 = 1
  · refine lv_lookup (off := 36) (tgt := 44) hx hb d_Records_entry_8 (by decide) (by rw [h3]; decide) rfl ?_
    refine lv_aload_n hx hb d_Records_entry_44 rfl (lv_at hl 1 rfl) ?_
    refine va_get (D := (dC, dI)) (ci := 4) (v := .ref (A 15)) (C := "CentrifugeUnit$Records") (T := xF4) (N := 4) hx hb htt xin4 hown hK hP 0 rfl rfl 1 (by decide) (htt _ tw_148) (fun _ h9 => h9) rfl d_Records_entry_45 ?_
    refine lv_iload_n hx hb d_Records_entry_48 rfl (lv_at hl 0 rfl) ?_
    refine va_lald (D := (dC, dI)) hx hb hK hP 2 1 rfl rfl (by rw [hz1]; exact xfm16 _ _) d_Records_entry_49 ?_
    exact W.lret hx hb hr (fun t ht hW => ⟨(by rw [F_Records_entry, ← hz1, F_Records_entry_k1, if_neg h2, if_pos h3]), ht⟩) (fun _ h => absurd h List.not_mem_nil) d_Records_entry_50
  refine lv_lookup (off := 43) (tgt := 51) hx hb d_Records_entry_8 (by decide) (by rw [lv_osw h2 (by decide)]; rw [lv_osw h3 (by decide)]; rfl) rfl ?_
  refine lv_aload_n hx hb d_Records_entry_51 rfl (lv_at hl 1 rfl) ?_
  refine va_get (D := (dC, dI)) (ci := 4) (v := .ref (A 16)) (C := "CentrifugeUnit$Records") (T := xF4) (N := 4) hx hb htt xin4 hown hK hP 0 rfl rfl 2 (by decide) (htt _ tw_149) (fun _ h9 => h9) rfl d_Records_entry_52 ?_
  refine lv_iload_n hx hb d_Records_entry_55 rfl (lv_at hl 0 rfl) ?_
  refine va_iald (D := (dC, dI)) hx hb hK hP 3 0 rfl rfl (by rw [hz1]; exact xfm16 _ _) d_Records_entry_56 ?_
  refine lv_i2l (v := (((M.2.2.1 16) (z1).toNatClampNeg)).toInt64) hx hb d_Records_entry_57 rfl ?_
  exact W.lret hx hb hr (fun t ht hW => ⟨(by rw [F_Records_entry, ← hz1, F_Records_entry_k1, if_neg h2, if_neg h3]), ht⟩) (fun _ h => absurd h List.not_mem_nil) d_Records_entry_58
abbrev bc_Records_add : ByteArray := prog_6_method_2_code
def y_Records_add : MethodName := ⟨"CentrifugeUnit$Records", "add", "(IJI)V"⟩
theorem d_Records_add_0 : decode bc_Records_add 0 = .ok (.aload_n 0, 1) := by decide +kernel
theorem d_Records_add_1 : decode bc_Records_add 1 = .ok (.getfield 20, 3) := by decide +kernel
theorem d_Records_add_4 : decode bc_Records_add 4 = .ok (.bipush 16, 2) := by decide +kernel
theorem d_Records_add_6 : decode bc_Records_add 6 = .ok (.invokestatic 24, 3) := by decide +kernel
theorem d_Records_add_9 : decode bc_Records_add 9 = .ok (.istore 5, 2) := by decide +kernel
theorem d_Records_add_11 : decode bc_Records_add 11 = .ok (.aload_n 0, 1) := by decide +kernel
theorem d_Records_add_12 : decode bc_Records_add 12 = .ok (.getfield 9, 3) := by decide +kernel
theorem d_Records_add_15 : decode bc_Records_add 15 = .ok (.iload 5, 2) := by decide +kernel
theorem d_Records_add_17 : decode bc_Records_add 17 = .ok (.iload_n 1, 1) := by decide +kernel
theorem d_Records_add_18 : decode bc_Records_add 18 = .ok (.iastore, 1) := by decide +kernel
theorem d_Records_add_19 : decode bc_Records_add 19 = .ok (.aload_n 0, 1) := by decide +kernel
theorem d_Records_add_20 : decode bc_Records_add 20 = .ok (.getfield 13, 3) := by decide +kernel
theorem d_Records_add_23 : decode bc_Records_add 23 = .ok (.iload 5, 2) := by decide +kernel
theorem d_Records_add_25 : decode bc_Records_add 25 = .ok (.lload_n 2, 1) := by decide +kernel
theorem d_Records_add_26 : decode bc_Records_add 26 = .ok (.lastore, 1) := by decide +kernel
theorem d_Records_add_27 : decode bc_Records_add 27 = .ok (.aload_n 0, 1) := by decide +kernel
theorem d_Records_add_28 : decode bc_Records_add 28 = .ok (.getfield 17, 3) := by decide +kernel
theorem d_Records_add_31 : decode bc_Records_add 31 = .ok (.iload 5, 2) := by decide +kernel
theorem d_Records_add_33 : decode bc_Records_add 33 = .ok (.iload 4, 2) := by decide +kernel
theorem d_Records_add_35 : decode bc_Records_add 35 = .ok (.iastore, 1) := by decide +kernel
theorem d_Records_add_36 : decode bc_Records_add 36 = .ok (.aload_n 0, 1) := by decide +kernel
theorem d_Records_add_37 : decode bc_Records_add 37 = .ok (.dup, 1) := by decide +kernel
theorem d_Records_add_38 : decode bc_Records_add 38 = .ok (.getfield 20, 3) := by decide +kernel
theorem d_Records_add_41 : decode bc_Records_add 41 = .ok (.iconst 1, 1) := by decide +kernel
theorem d_Records_add_42 : decode bc_Records_add 42 = .ok (.iadd, 1) := by decide +kernel
theorem d_Records_add_43 : decode bc_Records_add 43 = .ok (.putfield 20, 3) := by decide +kernel
theorem d_Records_add_46 : decode bc_Records_add 46 = .ok (.return_, 1) := by decide +kernel
abbrev ap_Records_add (M : XM) (u : ((Nat → Int32) × (Nat → Int64) × (Nat → Int32) × Int32)) : XM := ((va_up M.1 11 (u.2.2.2)), M.2.1, (va_up (va_up M.2.2.1 14 (u.1)) 16 (u.2.2.1)), (va_up M.2.2.2 15 (u.2.1)))
def F_Records_add_k1 (M : XM) (a1 : Int32) (a2 : Int64) (a3 : Int32) (z1 : Int32) : ((Nat → Int32) × (Nat → Int64) × (Nat → Int32) × Int32) := ((upd (M.2.2.1 14) (z1).toNatClampNeg a1), (vp_updL (M.2.2.2 15) (z1).toNatClampNeg a2), (upd (M.2.2.1 16) (z1).toNatClampNeg a3), ((M.1 11) + 1))
def F_Records_add (M : XM) (a1 : Int32) (a2 : Int64) (a3 : Int32) : ((Nat → Int32) × (Nat → Int64) × (Nat → Int32) × Int32) := (F_Records_add_k1 M a1 a2 a3 (F_Math_floorMod M (M.1 11) 16))
set_option maxHeartbeats 4000000 in
set_option maxRecDepth 100000 in
theorem c_Records_add (l : Launch) (dC : Nat → ClassId) (dI : Nat → Nat → Nat) (Z : Nat → ClassId) (A : Nat → Nat) (sz : Nat) (M : XM) (a1 : Int32) (a2 : Int64) (a3 : Int32) : Met l y_Records_add (.code y_Records_add bc_Records_add 6 none :: xw) ({ frames := 1, cells := 0, slots := 0, locals := 22 }) (va_Pc [.ref (A 13), .int a1, .long a2, .int a3] (xB (dC, dI) xcl (xty Z) sz [(A 13, xc13 Z A M), (A 14, xc14 Z A M), (A 15, xc15 Z A M), (A 16, xc16 Z A M)])) (va_Qv (fun u : ((Nat → Int32) × (Nat → Int64) × (Nat → Int32) × Int32) => u = F_Records_add M a1 a2 a3) (fun u => xE (dC, dI) xcl (xty Z) (va_A [(A 13, xc13 Z A M), (A 14, xc14 Z A M), (A 15, xc15 Z A M), (A 16, xc16 Z A M)] sz) [(A 13, xc13 Z A (ap_Records_add M u)), (A 14, xc14 Z A (ap_Records_add M u)), (A 15, xc15 Z A (ap_Records_add M u)), (A 16, xc16 Z A (ap_Records_add M u))]) (va_A [(A 13, xc13 Z A M), (A 14, xc14 Z A M), (A 15, xc15 Z A M), (A 16, xc16 Z A M)] sz)) 0 0 (va_A [(A 13, xc13 Z A M), (A 14, xc14 Z A M), (A 15, xc15 Z A M), (A 16, xc16 Z A M)] sz) := by
  refine Met.ofW (cc := bc_Records_add) (maxL := 6) (ret := none) (by decide) rfl ?_
  intro p e s m args below meth c s₁ B hml hv
  obtain ⟨rfl, hsz, hP, hK, hD0, hq⟩ := hv
  have hx := B.exec
  have hb := B.bytes
  have hr := B.returns
  have hts := atoms_spec (ws := (.code y_Records_add bc_Records_add 6 none :: xw)) B.pre
  have htt : ∀ w ∈ xw, w.before _ s = true := fun w h => hts w (List.mem_cons_of_mem _ h)
  have hown : s.vm.findClass "CentrifugeUnit$Records" = some m.cls := findClass_of_methodNamed B.named
  have hlocks := B.notSynchronized
  subst hsz
  have hD := hD0.self (sz := s.heap.size)
  generalize hAe : va_A [(A 13, xc13 Z A M), (A 14, xc14 Z A M), (A 15, xc15 Z A M), (A 16, xc16 Z A M)] s.heap.size = AA at hD ⊢
  have hA : ∀ q : Nat, s.heap.size ≤ q → AA q := fun q h => by rw [← hAe]; exact Or.inr h
  have hS : va_S AA s.heap s.heap [] := va_S.rf
  have hP : va_P (dC, dI) xcl [(A 13, .inr (4, [.ref (A 14), .ref (A 15), .ref (A 16), .int (M.1 11)])), (A 14, .inl (Z 0, 16, .inl (M.2.2.1 14))), (A 15, .inl (Z 1, 16, .inr (.inl (M.2.2.2 15)))), (A 16, .inl (Z 0, 16, .inl (M.2.2.1 16)))] s.heap := hP
  have hD : va_D AA [(A 13, .inr (4, [.ref (A 14), .ref (A 15), .ref (A 16), .int (M.1 11)])), (A 14, .inl (Z 0, 16, .inl (M.2.2.1 14))), (A 15, .inl (Z 1, 16, .inr (.inl (M.2.2.2 15)))), (A 16, .inl (Z 0, 16, .inl (M.2.2.1 16)))] := hD
  have hl := lv_entry ([.ref (A 13), .int a1, .long a2, .int a3]) (n := 6) (Nat.le_of_ble_eq_true rfl)
  rw [lg_entry_eq]
  generalize (lg_sl ([.ref (A 13), .int a1, .long a2, .int a3]) ++ List.replicate (6 - (lg_sl ([.ref (A 13), .int a1, .long a2, .int a3])).length) Slot.unset).toArray = ls at hl ⊢
  have hl : lv_has ls 6 [(0, .ref (A 13)), (1, .int a1), (2, .long a2), (4, .int a3)] := hl
  refine lv_aload_n hx hb d_Records_add_0 rfl (lv_at hl 0 rfl) ?_
  refine va_get (D := (dC, dI)) (ci := 4) (v := .int (M.1 11)) (C := "CentrifugeUnit$Records") (T := xF4) (N := 4) hx hb htt xin4 hown hK hP 0 rfl rfl 3 (by decide) (htt _ tw_150) (fun _ h9 => h9) rfl d_Records_add_1 ?_
  refine lv_bipush (v := 16) hx hb d_Records_add_4 (by decide) ?_
  have hPc := hP.sub (ws' := []) [] rfl
  have hDc := hD.sub (ws' := []) [] (by decide) rfl
  refine xk_p (va_runS (As := [.int (M.1 11), .int 16]) (rest := []) ⟨hx, hb, hml, hown, hts⟩ (c_Math_floorMod l dC dI Z A _ M (M.1 11) 16 (by decide)) (va_cwS 2 hts (xw_S _ tw_710 tw_711 tw_18 tw_712) rfl rfl rfl (by decide +kernel) ⟨Nat.le_of_ble_eq_true rfl, Nat.le_of_ble_eq_true rfl⟩) ⟨xB_blind, fun U hU hW => ⟨rfl, xB_at hPc hK hDc hq U hU hW⟩⟩ rfl rfl hl.1 rfl (lv_room (Nat.le_of_ble_eq_true rfl)) d_Records_add_6 ⟨Nat.le_of_ble_eq_true rfl, Nat.le_of_ble_eq_true rfl⟩) ?_
  refine lv_topi (fun z1 hz1 => ?_)
  refine lv_istore (lv' := [(5, .int z1), (0, .ref (A 13)), (1, .int a1), (2, .long a2), (4, .int a3)]) hx hb d_Records_add_9 hl (by decide) rfl (fun ls hl => ?_)
  refine lv_aload_n hx hb d_Records_add_11 rfl (lv_at hl 1 rfl) ?_
  refine va_get (D := (dC, dI)) (ci := 4) (v := .ref (A 14)) (C := "CentrifugeUnit$Records") (T := xF4) (N := 4) hx hb htt xin4 hown hK hP 0 rfl rfl 0 (by decide) (htt _ tw_147) (fun _ h9 => h9) rfl d_Records_add_12 ?_
  refine lv_iload hx hb d_Records_add_15 (lv_at hl 0 rfl) ?_
  refine lv_iload_n hx hb d_Records_add_17 rfl (lv_at hl 2 rfl) ?_
  refine va_iast (D := (dC, dI)) hx hb hK hP hD hS 1 0 rfl rfl (by rw [hz1]; exact xfm16 _ _) d_Records_add_18 (fun H locs hP hD hS => ?_)
  have hP : va_P (dC, dI) xcl [(A 13, .inr (4, [.ref (A 14), .ref (A 15), .ref (A 16), .int (M.1 11)])), (A 14, .inl (Z 0, 16, .inl (upd (M.2.2.1 14) (z1).toNatClampNeg a1))), (A 15, .inl (Z 1, 16, .inr (.inl (M.2.2.2 15)))), (A 16, .inl (Z 0, 16, .inl (M.2.2.1 16)))] H := hP
  have hD : va_D AA [(A 13, .inr (4, [.ref (A 14), .ref (A 15), .ref (A 16), .int (M.1 11)])), (A 14, .inl (Z 0, 16, .inl (upd (M.2.2.1 14) (z1).toNatClampNeg a1))), (A 15, .inl (Z 1, 16, .inr (.inl (M.2.2.2 15)))), (A 16, .inl (Z 0, 16, .inl (M.2.2.1 16)))] := hD
  refine lv_aload_n hx hb d_Records_add_19 rfl (lv_at hl 1 rfl) ?_
  refine va_get (D := (dC, dI)) (ci := 4) (v := .ref (A 15)) (C := "CentrifugeUnit$Records") (T := xF4) (N := 4) hx hb htt xin4 hown hK hP 0 rfl rfl 1 (by decide) (htt _ tw_148) (fun _ h9 => h9) rfl d_Records_add_20 ?_
  refine lv_iload hx hb d_Records_add_23 (lv_at hl 0 rfl) ?_
  refine lv_lload_n hx hb d_Records_add_25 rfl (lv_at hl 3 rfl) ?_
  refine va_last (D := (dC, dI)) hx hb hK hP hD hS 2 1 rfl rfl (by rw [hz1]; exact xfm16 _ _) d_Records_add_26 (fun H locs hP hD hS => ?_)
  have hP : va_P (dC, dI) xcl [(A 13, .inr (4, [.ref (A 14), .ref (A 15), .ref (A 16), .int (M.1 11)])), (A 14, .inl (Z 0, 16, .inl (upd (M.2.2.1 14) (z1).toNatClampNeg a1))), (A 15, .inl (Z 1, 16, .inr (.inl (vp_updL (M.2.2.2 15) (z1).toNatClampNeg a2)))), (A 16, .inl (Z 0, 16, .inl (M.2.2.1 16)))] H := hP
  have hD : va_D AA [(A 13, .inr (4, [.ref (A 14), .ref (A 15), .ref (A 16), .int (M.1 11)])), (A 14, .inl (Z 0, 16, .inl (upd (M.2.2.1 14) (z1).toNatClampNeg a1))), (A 15, .inl (Z 1, 16, .inr (.inl (vp_updL (M.2.2.2 15) (z1).toNatClampNeg a2)))), (A 16, .inl (Z 0, 16, .inl (M.2.2.1 16)))] := hD
  refine lv_aload_n hx hb d_Records_add_27 rfl (lv_at hl 1 rfl) ?_
  refine va_get (D := (dC, dI)) (ci := 4) (v := .ref (A 16)) (C := "CentrifugeUnit$Records") (T := xF4) (N := 4) hx hb htt xin4 hown hK hP 0 rfl rfl 2 (by decide) (htt _ tw_149) (fun _ h9 => h9) rfl d_Records_add_28 ?_
  refine lv_iload hx hb d_Records_add_31 (lv_at hl 0 rfl) ?_
  refine lv_iload hx hb d_Records_add_33 (lv_at hl 4 rfl) ?_
  refine va_iast (D := (dC, dI)) hx hb hK hP hD hS 3 0 rfl rfl (by rw [hz1]; exact xfm16 _ _) d_Records_add_35 (fun H locs hP hD hS => ?_)
  have hP : va_P (dC, dI) xcl [(A 13, .inr (4, [.ref (A 14), .ref (A 15), .ref (A 16), .int (M.1 11)])), (A 14, .inl (Z 0, 16, .inl (upd (M.2.2.1 14) (z1).toNatClampNeg a1))), (A 15, .inl (Z 1, 16, .inr (.inl (vp_updL (M.2.2.2 15) (z1).toNatClampNeg a2)))), (A 16, .inl (Z 0, 16, .inl (upd (M.2.2.1 16) (z1).toNatClampNeg a3)))] H := hP
  have hD : va_D AA [(A 13, .inr (4, [.ref (A 14), .ref (A 15), .ref (A 16), .int (M.1 11)])), (A 14, .inl (Z 0, 16, .inl (upd (M.2.2.1 14) (z1).toNatClampNeg a1))), (A 15, .inl (Z 1, 16, .inr (.inl (vp_updL (M.2.2.2 15) (z1).toNatClampNeg a2)))), (A 16, .inl (Z 0, 16, .inl (upd (M.2.2.1 16) (z1).toNatClampNeg a3)))] := hD
  refine lv_aload_n hx hb d_Records_add_36 rfl (lv_at hl 1 rfl) ?_
  refine lv_dup hx hb d_Records_add_37 rfl ?_
  refine va_get (D := (dC, dI)) (ci := 4) (v := .int (M.1 11)) (C := "CentrifugeUnit$Records") (T := xF4) (N := 4) hx hb htt xin4 hown hK hP 0 rfl rfl 3 (by decide) (htt _ tw_150) (fun _ h9 => h9) rfl d_Records_add_38 ?_
  refine lv_iconst (v := 1) hx hb d_Records_add_41 (by decide) ?_
  refine lv_iadd hx hb d_Records_add_42 ?_
  refine va_put (D := (dC, dI)) (ci := 4) (v := .int ((M.1 11) + 1)) (ty := .int) (C := "CentrifugeUnit$Records") (T := xF4) (N := 4) hx hb htt xin4 xT4 xTo4 xNm4 hown hK hP hD hS 0 rfl rfl 3 (by decide) (htt _ tw_150) (fun _ h9 => h9) rfl (by decide +kernel) rfl rfl (Nat.le_of_ble_eq_true rfl) d_Records_add_43 (fun H locs hP hD hS => ?_)
  have hP : va_P (dC, dI) xcl [(A 13, .inr (4, [.ref (A 14), .ref (A 15), .ref (A 16), .int ((M.1 11) + 1)])), (A 14, .inl (Z 0, 16, .inl (upd (M.2.2.1 14) (z1).toNatClampNeg a1))), (A 15, .inl (Z 1, 16, .inr (.inl (vp_updL (M.2.2.2 15) (z1).toNatClampNeg a2)))), (A 16, .inl (Z 0, 16, .inl (upd (M.2.2.1 16) (z1).toNatClampNeg a3)))] H := hP
  have hD : va_D AA [(A 13, .inr (4, [.ref (A 14), .ref (A 15), .ref (A 16), .int ((M.1 11) + 1)])), (A 14, .inl (Z 0, 16, .inl (upd (M.2.2.1 14) (z1).toNatClampNeg a1))), (A 15, .inl (Z 1, 16, .inr (.inl (vp_updL (M.2.2.2 15) (z1).toNatClampNeg a2)))), (A 16, .inl (Z 0, 16, .inl (upd (M.2.2.1 16) (z1).toNatClampNeg a3)))] := hD
  have hP9 := hP.sub (ws' := [(A 13, xc13 Z A (ap_Records_add M ((upd (M.2.2.1 14) (z1).toNatClampNeg a1), (vp_updL (M.2.2.2 15) (z1).toNatClampNeg a2), (upd (M.2.2.1 16) (z1).toNatClampNeg a3), ((M.1 11) + 1)))), (A 14, xc14 Z A (ap_Records_add M ((upd (M.2.2.1 14) (z1).toNatClampNeg a1), (vp_updL (M.2.2.2 15) (z1).toNatClampNeg a2), (upd (M.2.2.1 16) (z1).toNatClampNeg a3), ((M.1 11) + 1)))), (A 15, xc15 Z A (ap_Records_add M ((upd (M.2.2.1 14) (z1).toNatClampNeg a1), (vp_updL (M.2.2.2 15) (z1).toNatClampNeg a2), (upd (M.2.2.1 16) (z1).toNatClampNeg a3), ((M.1 11) + 1)))), (A 16, xc16 Z A (ap_Records_add M ((upd (M.2.2.1 14) (z1).toNatClampNeg a1), (vp_updL (M.2.2.2 15) (z1).toNatClampNeg a2), (upd (M.2.2.1 16) (z1).toNatClampNeg a3), ((M.1 11) + 1))))]) [0, 1, 2, 3] rfl
  have hD9 := hD.sub (ws' := [(A 13, xc13 Z A (ap_Records_add M ((upd (M.2.2.1 14) (z1).toNatClampNeg a1), (vp_updL (M.2.2.2 15) (z1).toNatClampNeg a2), (upd (M.2.2.1 16) (z1).toNatClampNeg a3), ((M.1 11) + 1)))), (A 14, xc14 Z A (ap_Records_add M ((upd (M.2.2.1 14) (z1).toNatClampNeg a1), (vp_updL (M.2.2.2 15) (z1).toNatClampNeg a2), (upd (M.2.2.1 16) (z1).toNatClampNeg a3), ((M.1 11) + 1)))), (A 15, xc15 Z A (ap_Records_add M ((upd (M.2.2.1 14) (z1).toNatClampNeg a1), (vp_updL (M.2.2.2 15) (z1).toNatClampNeg a2), (upd (M.2.2.1 16) (z1).toNatClampNeg a3), ((M.1 11) + 1)))), (A 16, xc16 Z A (ap_Records_add M ((upd (M.2.2.1 14) (z1).toNatClampNeg a1), (vp_updL (M.2.2.2 15) (z1).toNatClampNeg a2), (upd (M.2.2.1 16) (z1).toNatClampNeg a3), ((M.1 11) + 1))))]) [0, 1, 2, 3] (by decide) rfl
  exact W.vret hx hb hr (fun t ht hW => ⟨⟨((upd (M.2.2.1 14) (z1).toNatClampNeg a1), (vp_updL (M.2.2.2 15) (z1).toNatClampNeg a2), (upd (M.2.2.1 16) (z1).toNatClampNeg a3), ((M.1 11) + 1)), rfl, (by rw [F_Records_add, ← hz1, F_Records_add_k1]), xE_at hP9 hK hD9 ht hW⟩, hS.F ht⟩) hS.2.2 d_Records_add_46
abbrev bc_Sensors_sense : ByteArray := prog_9_method_2_code
def y_Sensors_sense : MethodName := ⟨"CentrifugeUnit$Sensors", "sense", "(LCentrifugeUnit$Model;)V"⟩
theorem d_Sensors_sense_0 : decode bc_Sensors_sense 0 = .ok (.aload_n 0, 1) := by decide +kernel
theorem d_Sensors_sense_1 : decode bc_Sensors_sense 1 = .ok (.getfield 9, 3) := by decide +kernel
theorem d_Sensors_sense_4 : decode bc_Sensors_sense 4 = .ok (.iconst (-1), 1) := by decide +kernel
theorem d_Sensors_sense_5 : decode bc_Sensors_sense 5 = .ok (.if_icmp .ne 10, 3) := by decide +kernel
theorem d_Sensors_sense_8 : decode bc_Sensors_sense 8 = .ok (.aload_n 1, 1) := by decide +kernel
theorem d_Sensors_sense_9 : decode bc_Sensors_sense 9 = .ok (.invokevirtual 16, 3) := by decide +kernel
theorem d_Sensors_sense_12 : decode bc_Sensors_sense 12 = .ok (.goto 8, 3) := by decide +kernel
theorem d_Sensors_sense_15 : decode bc_Sensors_sense 15 = .ok (.aload_n 0, 1) := by decide +kernel
theorem d_Sensors_sense_16 : decode bc_Sensors_sense 16 = .ok (.getfield 9, 3) := by decide +kernel
theorem d_Sensors_sense_19 : decode bc_Sensors_sense 19 = .ok (.i2l, 1) := by decide +kernel
theorem d_Sensors_sense_20 : decode bc_Sensors_sense 20 = .ok (.lstore_n 2, 1) := by decide +kernel
theorem d_Sensors_sense_21 : decode bc_Sensors_sense 21 = .ok (.aload_n 0, 1) := by decide +kernel
theorem d_Sensors_sense_22 : decode bc_Sensors_sense 22 = .ok (.getfield 13, 3) := by decide +kernel
theorem d_Sensors_sense_25 : decode bc_Sensors_sense 25 = .ok (.iconst (-1), 1) := by decide +kernel
theorem d_Sensors_sense_26 : decode bc_Sensors_sense 26 = .ok (.if_icmp .ne 10, 3) := by decide +kernel
theorem d_Sensors_sense_29 : decode bc_Sensors_sense 29 = .ok (.aload_n 1, 1) := by decide +kernel
theorem d_Sensors_sense_30 : decode bc_Sensors_sense 30 = .ok (.invokevirtual 22, 3) := by decide +kernel
theorem d_Sensors_sense_33 : decode bc_Sensors_sense 33 = .ok (.goto 8, 3) := by decide +kernel
theorem d_Sensors_sense_36 : decode bc_Sensors_sense 36 = .ok (.aload_n 0, 1) := by decide +kernel
theorem d_Sensors_sense_37 : decode bc_Sensors_sense 37 = .ok (.getfield 13, 3) := by decide +kernel
theorem d_Sensors_sense_40 : decode bc_Sensors_sense 40 = .ok (.i2l, 1) := by decide +kernel
theorem d_Sensors_sense_41 : decode bc_Sensors_sense 41 = .ok (.lstore 4, 2) := by decide +kernel
theorem d_Sensors_sense_43 : decode bc_Sensors_sense 43 = .ok (.aload_n 0, 1) := by decide +kernel
theorem d_Sensors_sense_44 : decode bc_Sensors_sense 44 = .ok (.lload_n 2, 1) := by decide +kernel
theorem d_Sensors_sense_45 : decode bc_Sensors_sense 45 = .ok (.lconst 0, 1) := by decide +kernel
theorem d_Sensors_sense_46 : decode bc_Sensors_sense 46 = .ok (.lcmp, 1) := by decide +kernel
theorem d_Sensors_sense_47 : decode bc_Sensors_sense 47 = .ok (.ifCond .gt 7, 3) := by decide +kernel
theorem d_Sensors_sense_50 : decode bc_Sensors_sense 50 = .ok (.iconst 0, 1) := by decide +kernel
theorem d_Sensors_sense_51 : decode bc_Sensors_sense 51 = .ok (.goto 15, 3) := by decide +kernel
theorem d_Sensors_sense_54 : decode bc_Sensors_sense 54 = .ok (.ldc2_w 25, 3) := by decide +kernel
theorem d_Sensors_sense_57 : decode bc_Sensors_sense 57 = .ok (.ldc2_w 27, 3) := by decide +kernel
theorem d_Sensors_sense_60 : decode bc_Sensors_sense 60 = .ok (.lload_n 2, 1) := by decide +kernel
theorem d_Sensors_sense_61 : decode bc_Sensors_sense 61 = .ok (.ldiv, 1) := by decide +kernel
theorem d_Sensors_sense_62 : decode bc_Sensors_sense 62 = .ok (.invokestatic 29, 3) := by decide +kernel
theorem d_Sensors_sense_65 : decode bc_Sensors_sense 65 = .ok (.l2i, 1) := by decide +kernel
theorem d_Sensors_sense_66 : decode bc_Sensors_sense 66 = .ok (.putfield 35, 3) := by decide +kernel
theorem d_Sensors_sense_69 : decode bc_Sensors_sense 69 = .ok (.aload_n 0, 1) := by decide +kernel
theorem d_Sensors_sense_70 : decode bc_Sensors_sense 70 = .ok (.ldc2_w 25, 3) := by decide +kernel
theorem d_Sensors_sense_73 : decode bc_Sensors_sense 73 = .ok (.ldc2_w 38, 3) := by decide +kernel
theorem d_Sensors_sense_76 : decode bc_Sensors_sense 76 = .ok (.lload 4, 2) := by decide +kernel
theorem d_Sensors_sense_78 : decode bc_Sensors_sense 78 = .ok (.lmul, 1) := by decide +kernel
theorem d_Sensors_sense_79 : decode bc_Sensors_sense 79 = .ok (.invokestatic 29, 3) := by decide +kernel
theorem d_Sensors_sense_82 : decode bc_Sensors_sense 82 = .ok (.l2i, 1) := by decide +kernel
theorem d_Sensors_sense_83 : decode bc_Sensors_sense 83 = .ok (.putfield 40, 3) := by decide +kernel
theorem d_Sensors_sense_86 : decode bc_Sensors_sense 86 = .ok (.aload_n 0, 1) := by decide +kernel
theorem d_Sensors_sense_87 : decode bc_Sensors_sense 87 = .ok (.aload_n 0, 1) := by decide +kernel
theorem d_Sensors_sense_88 : decode bc_Sensors_sense 88 = .ok (.getfield 35, 3) := by decide +kernel
theorem d_Sensors_sense_91 : decode bc_Sensors_sense 91 = .ok (.aload_n 0, 1) := by decide +kernel
theorem d_Sensors_sense_92 : decode bc_Sensors_sense 92 = .ok (.getfield 40, 3) := by decide +kernel
theorem d_Sensors_sense_95 : decode bc_Sensors_sense 95 = .ok (.invokestatic 43, 3) := by decide +kernel
theorem d_Sensors_sense_98 : decode bc_Sensors_sense 98 = .ok (.putfield 47, 3) := by decide +kernel
theorem d_Sensors_sense_101 : decode bc_Sensors_sense 101 = .ok (.aload_n 0, 1) := by decide +kernel
theorem d_Sensors_sense_102 : decode bc_Sensors_sense 102 = .ok (.aload_n 0, 1) := by decide +kernel
theorem d_Sensors_sense_103 : decode bc_Sensors_sense 103 = .ok (.getfield 35, 3) := by decide +kernel
theorem d_Sensors_sense_106 : decode bc_Sensors_sense 106 = .ok (.aload_n 0, 1) := by decide +kernel
theorem d_Sensors_sense_107 : decode bc_Sensors_sense 107 = .ok (.getfield 40, 3) := by decide +kernel
theorem d_Sensors_sense_110 : decode bc_Sensors_sense 110 = .ok (.invokestatic 50, 3) := by decide +kernel
theorem d_Sensors_sense_113 : decode bc_Sensors_sense 113 = .ok (.putfield 52, 3) := by decide +kernel
theorem d_Sensors_sense_116 : decode bc_Sensors_sense 116 = .ok (.return_, 1) := by decide +kernel
abbrev ap_Sensors_sense (M : XM) (u : (Int32 × Int32 × Int32 × Int32)) : XM := ((va_up (va_up (va_up (va_up M.1 4 (u.1)) 5 (u.2.1)) 6 (u.2.2.1)) 7 (u.2.2.2)), M.2)
def F_Sensors_sense_k12 (M : XM) (j1 : Int64) (j3 : Int64) (j5 : Int32) (z7 : Int64) (z8 : Int32) (z9 : Int32) : (Int32 × Int32 × Int32 × Int32) := (j5, (z7).toInt32, z8, z9)
def F_Sensors_sense_k11 (M : XM) (j1 : Int64) (j3 : Int64) (j5 : Int32) (z7 : Int64) (z8 : Int32) : (Int32 × Int32 × Int32 × Int32) := (F_Sensors_sense_k12 M j1 j3 j5 z7 z8 (if (z7).toInt32 < j5 then (z7).toInt32 else j5))
def F_Sensors_sense_k10 (M : XM) (j1 : Int64) (j3 : Int64) (j5 : Int32) (z7 : Int64) : (Int32 × Int32 × Int32 × Int32) := (F_Sensors_sense_k11 M j1 j3 j5 z7 (if j5 < (z7).toInt32 then (z7).toInt32 else j5))
def F_Sensors_sense_k9 (M : XM) (j1 : Int64) (j3 : Int64) (j5 : Int32) : (Int32 × Int32 × Int32 × Int32) := (F_Sensors_sense_k10 M j1 j3 j5 (if (10 * j3) < 100000 then (10 * j3) else 100000))
def F_Sensors_sense_k7 (M : XM) (j1 : Int64) (j3 : Int64) (z11 : Int64) : Int32 := (z11).toInt32
def F_Sensors_sense_j8 (M : XM) (j1 : Int64) (j3 : Int64) : Int32 := (if 0 < (lg_cmp j1 0) then (F_Sensors_sense_k7 M j1 j3 (if (60000000 / j1) < 100000 then (60000000 / j1) else 100000)) else 0)
def F_Sensors_sense_k6 (M : XM) (j1 : Int64) (j3 : Int64) : (Int32 × Int32 × Int32 × Int32) := (F_Sensors_sense_k9 M j1 j3 (F_Sensors_sense_j8 M j1 j3))
def F_Sensors_sense_k4 (M : XM) (j1 : Int64) (z13 : Int64) : Int64 := z13
def F_Sensors_sense_j5 (M : XM) (j1 : Int64) : Int64 := (if (M.1 3) = (-1) then (F_Sensors_sense_k4 M j1 (F_Model_countInTick M)) else ((M.1 3)).toInt64)
def F_Sensors_sense_k3 (M : XM) (j1 : Int64) : (Int32 × Int32 × Int32 × Int32) := (F_Sensors_sense_k6 M j1 (F_Sensors_sense_j5 M j1))
def F_Sensors_sense_k1 (M : XM) (z15 : Int64) : Int64 := z15
def F_Sensors_sense_j2 (M : XM) : Int64 := (if (M.1 2) = (-1) then (F_Sensors_sense_k1 M (F_Model_microsecondsOfTurn M)) else ((M.1 2)).toInt64)
def F_Sensors_sense (M : XM) : (Int32 × Int32 × Int32 × Int32) := (F_Sensors_sense_k3 M (F_Sensors_sense_j2 M))
set_option maxHeartbeats 4000000 in
set_option maxRecDepth 100000 in
theorem c_Sensors_sense (l : Launch) (dC : Nat → ClassId) (dI : Nat → Nat → Nat) (Z : Nat → ClassId) (A : Nat → Nat) (sz : Nat) (M : XM) : Met l y_Sensors_sense (.code y_Sensors_sense bc_Sensors_sense 6 none :: xw) ({ frames := 1, cells := 0, slots := 0, locals := 23 }) (va_Pc [.ref (A 11), .ref (A 10)] (xB (dC, dI) xcl (xty Z) sz [(A 11, xc11 Z A M), (A 10, xc10 Z A M)])) (va_Qv (fun u : (Int32 × Int32 × Int32 × Int32) => u = F_Sensors_sense M) (fun u => xE (dC, dI) xcl (xty Z) (va_A [(A 11, xc11 Z A M), (A 10, xc10 Z A M)] sz) [(A 11, xc11 Z A (ap_Sensors_sense M u)), (A 10, xc10 Z A (ap_Sensors_sense M u))]) (va_A [(A 11, xc11 Z A M), (A 10, xc10 Z A M)] sz)) 0 0 (va_A [(A 11, xc11 Z A M), (A 10, xc10 Z A M)] sz) := by
  refine Met.ofW (cc := bc_Sensors_sense) (maxL := 6) (ret := none) (by decide) rfl ?_
  intro p e s m args below meth c s₁ B hml hv
  obtain ⟨rfl, hsz, hP, hK, hD0, hq⟩ := hv
  have hx := B.exec
  have hb := B.bytes
  have hr := B.returns
  have hts := atoms_spec (ws := (.code y_Sensors_sense bc_Sensors_sense 6 none :: xw)) B.pre
  have htt : ∀ w ∈ xw, w.before _ s = true := fun w h => hts w (List.mem_cons_of_mem _ h)
  have hown : s.vm.findClass "CentrifugeUnit$Sensors" = some m.cls := findClass_of_methodNamed B.named
  have hlocks := B.notSynchronized
  subst hsz
  have hD := hD0.self (sz := s.heap.size)
  generalize hAe : va_A [(A 11, xc11 Z A M), (A 10, xc10 Z A M)] s.heap.size = AA at hD ⊢
  have hA : ∀ q : Nat, s.heap.size ≤ q → AA q := fun q h => by rw [← hAe]; exact Or.inr h
  have hS : va_S AA s.heap s.heap [] := va_S.rf
  have hP : va_P (dC, dI) xcl [(A 11, .inr (7, [.int (M.1 2), .int (M.1 3), .int (M.1 4), .int (M.1 5), .int (M.1 6), .int (M.1 7)])), (A 10, .inr (2, [.long (M.2.1 0)]))] s.heap := hP
  have hD : va_D AA [(A 11, .inr (7, [.int (M.1 2), .int (M.1 3), .int (M.1 4), .int (M.1 5), .int (M.1 6), .int (M.1 7)])), (A 10, .inr (2, [.long (M.2.1 0)]))] := hD
  have hl := lv_entry ([.ref (A 11), .ref (A 10)]) (n := 6) (Nat.le_of_ble_eq_true rfl)
  rw [lg_entry_eq]
  generalize (lg_sl ([.ref (A 11), .ref (A 10)]) ++ List.replicate (6 - (lg_sl ([.ref (A 11), .ref (A 10)])).length) Slot.unset).toArray = ls at hl ⊢
  have hl : lv_has ls 6 [(0, .ref (A 11)), (1, .ref (A 10))] := hl
  refine lv_aload_n hx hb d_Sensors_sense_0 rfl (lv_at hl 0 rfl) ?_
  refine va_get (D := (dC, dI)) (ci := 7) (v := .int (M.1 2)) (C := "CentrifugeUnit$Sensors") (T := xF7) (N := 6) hx hb htt xin7 hown hK hP 0 rfl rfl 0 (by decide) (htt _ tw_95) (fun _ h9 => h9) rfl d_Sensors_sense_1 ?_
  refine lv_iconst (v := (-1)) hx hb d_Sensors_sense_4 (by decide) ?_
  refine xj_p 6 20 (fun q9 : Int64 => [(0, .ref (A 11)), (1, .ref (A 10))]) (fun q9 : Int64 => [.long q9]) (fun q9 : Int64 => q9 = F_Sensors_sense_j2 M) (fun hJ2 => ?_) (fun ls j1 hl hj1 => ?_)
  · refine lv_icmp_ne (tgt := 15) hx hb d_Sensors_sense_5 rfl (fun h14 => ?_) (fun h14 => ?_)
    · refine lv_aload_n hx hb d_Sensors_sense_15 rfl (lv_at hl 0 rfl) ?_
      refine va_get (D := (dC, dI)) (ci := 7) (v := .int (M.1 2)) (C := "CentrifugeUnit$Sensors") (T := xF7) (N := 6) hx hb htt xin7 hown hK hP 0 rfl rfl 0 (by decide) (htt _ tw_95) (fun _ h9 => h9) rfl d_Sensors_sense_16 ?_
      refine lv_i2l (v := ((M.1 2)).toInt64) hx hb d_Sensors_sense_19 rfl ?_
      exact hJ2 _ ((M.1 2)).toInt64 (lv_sub hl [0, 1] rfl) (by rw [F_Sensors_sense_j2, if_neg h14])
    · refine lv_aload_n hx hb d_Sensors_sense_8 rfl (lv_at hl 1 rfl) ?_
      have hPc := hP.sub (ws' := [(A 10, xc10 Z A M)]) [1] rfl
      have hDc := hD.sub (ws' := [(A 10, xc10 Z A M)]) [1] (by decide) rfl
      refine xk_p (va_runV (As := []) (rest := []) ⟨hx, hb, hml, hown, hts⟩ (c_Model_microsecondsOfTurn l dC dI Z A _ M) (cwV 0 hts (xw_V _ tw_593 tw_594 tw_595 tw_5 tw_596) rfl rfl rfl (by decide +kernel) ⟨Nat.le_of_ble_eq_true rfl, Nat.le_of_ble_eq_true rfl⟩) ⟨xB_blind, va_recv (q0 := 1) (ci := 2) hK hP rfl rfl, fun U hU hW => ⟨rfl, xB_at hPc hK hDc hq U hU hW⟩⟩ rfl rfl hl.1 rfl (lv_room (Nat.le_of_ble_eq_true rfl)) d_Sensors_sense_9 ⟨Nat.le_of_ble_eq_true rfl, Nat.le_of_ble_eq_true rfl⟩) ?_
      refine lv_topl (fun z15 hz15 => ?_)
      refine lv_goto (tgt := 20) hx hb d_Sensors_sense_12 rfl ?_
      exact hJ2 _ z15 (lv_sub hl [0, 1] rfl) (by rw [F_Sensors_sense_j2, if_pos h14, ← hz15, F_Sensors_sense_k1])
  · refine lv_lstore_n (lv' := [(2, .long j1), (0, .ref (A 11)), (1, .ref (A 10))]) hx hb d_Sensors_sense_20 rfl hl (by decide) rfl (fun ls hl => ?_)
    refine lv_aload_n hx hb d_Sensors_sense_21 rfl (lv_at hl 1 rfl) ?_
    refine va_get (D := (dC, dI)) (ci := 7) (v := .int (M.1 3)) (C := "CentrifugeUnit$Sensors") (T := xF7) (N := 6) hx hb htt xin7 hown hK hP 0 rfl rfl 1 (by decide) (htt _ tw_97) (fun _ h9 => h9) rfl d_Sensors_sense_22 ?_
    refine lv_iconst (v := (-1)) hx hb d_Sensors_sense_25 (by decide) ?_
    refine xj_p 6 41 (fun q9 : Int64 => [(2, .long j1), (0, .ref (A 11)), (1, .ref (A 10))]) (fun q9 : Int64 => [.long q9]) (fun q9 : Int64 => q9 = F_Sensors_sense_j5 M j1) (fun hJ4 => ?_) (fun ls j3 hl hj3 => ?_)
    · refine lv_icmp_ne (tgt := 36) hx hb d_Sensors_sense_26 rfl (fun h12 => ?_) (fun h12 => ?_)
      · refine lv_aload_n hx hb d_Sensors_sense_36 rfl (lv_at hl 1 rfl) ?_
        refine va_get (D := (dC, dI)) (ci := 7) (v := .int (M.1 3)) (C := "CentrifugeUnit$Sensors") (T := xF7) (N := 6) hx hb htt xin7 hown hK hP 0 rfl rfl 1 (by decide) (htt _ tw_97) (fun _ h9 => h9) rfl d_Sensors_sense_37 ?_
        refine lv_i2l (v := ((M.1 3)).toInt64) hx hb d_Sensors_sense_40 rfl ?_
        exact hJ4 _ ((M.1 3)).toInt64 (lv_sub hl [0, 1, 2] rfl) (by rw [F_Sensors_sense_j5, if_neg h12])
      · refine lv_aload_n hx hb d_Sensors_sense_29 rfl (lv_at hl 2 rfl) ?_
        have hPc := hP.sub (ws' := [(A 10, xc10 Z A M)]) [1] rfl
        have hDc := hD.sub (ws' := [(A 10, xc10 Z A M)]) [1] (by decide) rfl
        refine xk_p (va_runV (As := []) (rest := []) ⟨hx, hb, hml, hown, hts⟩ (c_Model_countInTick l dC dI Z A _ M) (cwV 0 hts (xw_V _ tw_599 tw_600 tw_601 tw_5 tw_602) rfl rfl rfl (by decide +kernel) ⟨Nat.le_of_ble_eq_true rfl, Nat.le_of_ble_eq_true rfl⟩) ⟨xB_blind, va_recv (q0 := 1) (ci := 2) hK hP rfl rfl, fun U hU hW => ⟨rfl, xB_at hPc hK hDc hq U hU hW⟩⟩ rfl rfl hl.1 rfl (lv_room (Nat.le_of_ble_eq_true rfl)) d_Sensors_sense_30 ⟨Nat.le_of_ble_eq_true rfl, Nat.le_of_ble_eq_true rfl⟩) ?_
        refine lv_topl (fun z13 hz13 => ?_)
        refine lv_goto (tgt := 41) hx hb d_Sensors_sense_33 rfl ?_
        exact hJ4 _ z13 (lv_sub hl [0, 1, 2] rfl) (by rw [F_Sensors_sense_j5, if_pos h12, ← hz13, F_Sensors_sense_k4])
    · refine lv_lstore (lv' := [(4, .long j3), (2, .long j1), (0, .ref (A 11)), (1, .ref (A 10))]) hx hb d_Sensors_sense_41 hl (by decide) rfl (fun ls hl => ?_)
      refine lv_aload_n hx hb d_Sensors_sense_43 rfl (lv_at hl 2 rfl) ?_
      refine lv_lload_n hx hb d_Sensors_sense_44 rfl (lv_at hl 1 rfl) ?_
      refine lv_lconst (v := 0) hx hb d_Sensors_sense_45 (by decide) ?_
      refine W.lcmp hx hb d_Sensors_sense_46 ?_
      refine xj_p 6 66 (fun q9 : Int32 => [(4, .long j3), (2, .long j1), (0, .ref (A 11)), (1, .ref (A 10))]) (fun q9 : Int32 => [.int q9, .ref (A 11)]) (fun q9 : Int32 => q9 = F_Sensors_sense_j8 M j1 j3) (fun hJ6 => ?_) (fun ls j5 hl hj5 => ?_)
      · refine lv_if_gt (tgt := 54) hx hb d_Sensors_sense_47 rfl (fun h10 => ?_) (fun h10 => ?_)
        · refine lv_ldc2 (v := 100000) hx hb hown (htt _ tw_604) d_Sensors_sense_54 ?_
          refine lv_ldc2 (v := 60000000) hx hb hown (htt _ tw_605) d_Sensors_sense_57 ?_
          refine lv_lload_n hx hb d_Sensors_sense_60 rfl (lv_at hl 1 rfl) ?_
          refine lv_ldiv hx hb d_Sensors_sense_61 (xgt h10) ?_
          refine va_mmin_long hx hb (hml.trans hl.1.symm) hown (htt _ tw_606) (htt _ tw_607) (htt _ tw_18) (htt _ tw_608) (Nat.le_of_ble_eq_true rfl) (Nat.le_of_ble_eq_true rfl) (Nat.le_of_ble_eq_true rfl) (Nat.le_of_ble_eq_true rfl) d_Sensors_sense_62 ?_
          refine lv_topl (fun z11 hz11 => ?_)
          refine lv_l2i (v := (z11).toInt32) hx hb d_Sensors_sense_65 rfl ?_
          exact hJ6 _ (z11).toInt32 (lv_sub hl [0, 1, 2, 3] rfl) (by rw [F_Sensors_sense_j8, if_pos h10, ← hz11, F_Sensors_sense_k7])
        · refine lv_iconst (v := 0) hx hb d_Sensors_sense_50 (by decide) ?_
          refine lv_goto (tgt := 66) hx hb d_Sensors_sense_51 rfl ?_
          exact hJ6 _ 0 (lv_sub hl [0, 1, 2, 3] rfl) (by rw [F_Sensors_sense_j8, if_neg h10])
      · refine va_put (D := (dC, dI)) (ci := 7) (v := .int j5) (ty := .int) (C := "CentrifugeUnit$Sensors") (T := xF7) (N := 6) hx hb htt xin7 xT7 xTo7 xNm7 hown hK hP hD hS 0 rfl rfl 2 (by decide) (htt _ tw_99) (fun _ h9 => h9) rfl (by decide +kernel) rfl rfl (Nat.le_of_ble_eq_true rfl) d_Sensors_sense_66 (fun H locs hP hD hS => ?_)
        have hP : va_P (dC, dI) xcl [(A 11, .inr (7, [.int (M.1 2), .int (M.1 3), .int j5, .int (M.1 5), .int (M.1 6), .int (M.1 7)])), (A 10, .inr (2, [.long (M.2.1 0)]))] H := hP
        have hD : va_D AA [(A 11, .inr (7, [.int (M.1 2), .int (M.1 3), .int j5, .int (M.1 5), .int (M.1 6), .int (M.1 7)])), (A 10, .inr (2, [.long (M.2.1 0)]))] := hD
        refine lv_aload_n hx hb d_Sensors_sense_69 rfl (lv_at hl 2 rfl) ?_
        refine lv_ldc2 (v := 100000) hx hb hown (htt _ tw_604) d_Sensors_sense_70 ?_
        refine lv_ldc2 (v := 10) hx hb hown (htt _ tw_609) d_Sensors_sense_73 ?_
        refine lv_lload hx hb d_Sensors_sense_76 (lv_at hl 0 rfl) ?_
        refine lv_lmul hx hb d_Sensors_sense_78 ?_
        refine va_mmin_long hx hb (hml.trans hl.1.symm) hown (htt _ tw_606) (htt _ tw_607) (htt _ tw_18) (htt _ tw_608) (Nat.le_of_ble_eq_true rfl) (Nat.le_of_ble_eq_true rfl) (Nat.le_of_ble_eq_true rfl) (Nat.le_of_ble_eq_true rfl) d_Sensors_sense_79 ?_
        refine lv_topl (fun z7 hz7 => ?_)
        refine lv_l2i (v := (z7).toInt32) hx hb d_Sensors_sense_82 rfl ?_
        refine va_put (D := (dC, dI)) (ci := 7) (v := .int (z7).toInt32) (ty := .int) (C := "CentrifugeUnit$Sensors") (T := xF7) (N := 6) hx hb htt xin7 xT7 xTo7 xNm7 hown hK hP hD hS 0 rfl rfl 3 (by decide) (htt _ tw_101) (fun _ h9 => h9) rfl (by decide +kernel) rfl rfl (Nat.le_of_ble_eq_true rfl) d_Sensors_sense_83 (fun H locs hP hD hS => ?_)
        have hP : va_P (dC, dI) xcl [(A 11, .inr (7, [.int (M.1 2), .int (M.1 3), .int j5, .int (z7).toInt32, .int (M.1 6), .int (M.1 7)])), (A 10, .inr (2, [.long (M.2.1 0)]))] H := hP
        have hD : va_D AA [(A 11, .inr (7, [.int (M.1 2), .int (M.1 3), .int j5, .int (z7).toInt32, .int (M.1 6), .int (M.1 7)])), (A 10, .inr (2, [.long (M.2.1 0)]))] := hD
        refine lv_aload_n hx hb d_Sensors_sense_86 rfl (lv_at hl 2 rfl) ?_
        refine lv_aload_n hx hb d_Sensors_sense_87 rfl (lv_at hl 2 rfl) ?_
        refine va_get (D := (dC, dI)) (ci := 7) (v := .int j5) (C := "CentrifugeUnit$Sensors") (T := xF7) (N := 6) hx hb htt xin7 hown hK hP 0 rfl rfl 2 (by decide) (htt _ tw_99) (fun _ h9 => h9) rfl d_Sensors_sense_88 ?_
        refine lv_aload_n hx hb d_Sensors_sense_91 rfl (lv_at hl 2 rfl) ?_
        refine va_get (D := (dC, dI)) (ci := 7) (v := .int (z7).toInt32) (C := "CentrifugeUnit$Sensors") (T := xF7) (N := 6) hx hb htt xin7 hown hK hP 0 rfl rfl 3 (by decide) (htt _ tw_101) (fun _ h9 => h9) rfl d_Sensors_sense_92 ?_
        refine va_mmax hx hb (hml.trans hl.1.symm) hown (htt _ tw_610) (htt _ tw_611) (htt _ tw_18) (htt _ tw_612) (Nat.le_of_ble_eq_true rfl) (Nat.le_of_ble_eq_true rfl) (Nat.le_of_ble_eq_true rfl) (Nat.le_of_ble_eq_true rfl) d_Sensors_sense_95 ?_
        refine lv_topi (fun z8 hz8 => ?_)
        refine va_put (D := (dC, dI)) (ci := 7) (v := .int z8) (ty := .int) (C := "CentrifugeUnit$Sensors") (T := xF7) (N := 6) hx hb htt xin7 xT7 xTo7 xNm7 hown hK hP hD hS 0 rfl rfl 4 (by decide) (htt _ tw_104) (fun _ h9 => h9) rfl (by decide +kernel) rfl rfl (Nat.le_of_ble_eq_true rfl) d_Sensors_sense_98 (fun H locs hP hD hS => ?_)
        have hP : va_P (dC, dI) xcl [(A 11, .inr (7, [.int (M.1 2), .int (M.1 3), .int j5, .int (z7).toInt32, .int z8, .int (M.1 7)])), (A 10, .inr (2, [.long (M.2.1 0)]))] H := hP
        have hD : va_D AA [(A 11, .inr (7, [.int (M.1 2), .int (M.1 3), .int j5, .int (z7).toInt32, .int z8, .int (M.1 7)])), (A 10, .inr (2, [.long (M.2.1 0)]))] := hD
        refine lv_aload_n hx hb d_Sensors_sense_101 rfl (lv_at hl 2 rfl) ?_
        refine lv_aload_n hx hb d_Sensors_sense_102 rfl (lv_at hl 2 rfl) ?_
        refine va_get (D := (dC, dI)) (ci := 7) (v := .int j5) (C := "CentrifugeUnit$Sensors") (T := xF7) (N := 6) hx hb htt xin7 hown hK hP 0 rfl rfl 2 (by decide) (htt _ tw_99) (fun _ h9 => h9) rfl d_Sensors_sense_103 ?_
        refine lv_aload_n hx hb d_Sensors_sense_106 rfl (lv_at hl 2 rfl) ?_
        refine va_get (D := (dC, dI)) (ci := 7) (v := .int (z7).toInt32) (C := "CentrifugeUnit$Sensors") (T := xF7) (N := 6) hx hb htt xin7 hown hK hP 0 rfl rfl 3 (by decide) (htt _ tw_101) (fun _ h9 => h9) rfl d_Sensors_sense_107 ?_
        refine va_mmin hx hb (hml.trans hl.1.symm) hown (htt _ tw_613) (htt _ tw_614) (htt _ tw_18) (htt _ tw_615) (Nat.le_of_ble_eq_true rfl) (Nat.le_of_ble_eq_true rfl) (Nat.le_of_ble_eq_true rfl) (Nat.le_of_ble_eq_true rfl) d_Sensors_sense_110 ?_
        refine lv_topi (fun z9 hz9 => ?_)
        refine va_put (D := (dC, dI)) (ci := 7) (v := .int z9) (ty := .int) (C := "CentrifugeUnit$Sensors") (T := xF7) (N := 6) hx hb htt xin7 xT7 xTo7 xNm7 hown hK hP hD hS 0 rfl rfl 5 (by decide) (htt _ tw_108) (fun _ h9 => h9) rfl (by decide +kernel) rfl rfl (Nat.le_of_ble_eq_true rfl) d_Sensors_sense_113 (fun H locs hP hD hS => ?_)
        have hP : va_P (dC, dI) xcl [(A 11, .inr (7, [.int (M.1 2), .int (M.1 3), .int j5, .int (z7).toInt32, .int z8, .int z9])), (A 10, .inr (2, [.long (M.2.1 0)]))] H := hP
        have hD : va_D AA [(A 11, .inr (7, [.int (M.1 2), .int (M.1 3), .int j5, .int (z7).toInt32, .int z8, .int z9])), (A 10, .inr (2, [.long (M.2.1 0)]))] := hD
        have hP9 := hP.sub (ws' := [(A 11, xc11 Z A (ap_Sensors_sense M (j5, (z7).toInt32, z8, z9))), (A 10, xc10 Z A (ap_Sensors_sense M (j5, (z7).toInt32, z8, z9)))]) [0, 1] rfl
        have hD9 := hD.sub (ws' := [(A 11, xc11 Z A (ap_Sensors_sense M (j5, (z7).toInt32, z8, z9))), (A 10, xc10 Z A (ap_Sensors_sense M (j5, (z7).toInt32, z8, z9)))]) [0, 1] (by decide) rfl
        exact W.vret hx hb hr (fun t ht hW => ⟨⟨(j5, (z7).toInt32, z8, z9), rfl, (by rw [F_Sensors_sense, ← hj1, F_Sensors_sense_k3, ← hj3, F_Sensors_sense_k6, ← hj5, F_Sensors_sense_k9, ← hz7, F_Sensors_sense_k10, ← hz8, F_Sensors_sense_k11, ← hz9, F_Sensors_sense_k12]), xE_at hP9 hK hD9 ht hW⟩, hS.F ht⟩) hS.2.2 d_Sensors_sense_116
abbrev bc_Rotors_allowed : ByteArray := prog_7_method_3_code
def y_Rotors_allowed : MethodName := ⟨"CentrifugeUnit$Rotors", "allowed", "(IIIII)Z"⟩
theorem d_Rotors_allowed_0 : decode bc_Rotors_allowed 0 = .ok (.iload_n 0, 1) := by decide +kernel
theorem d_Rotors_allowed_1 : decode bc_Rotors_allowed 1 = .ok (.invokestatic 38, 3) := by decide +kernel
theorem d_Rotors_allowed_4 : decode bc_Rotors_allowed 4 = .ok (.ifCond .eq 54, 3) := by decide +kernel
theorem d_Rotors_allowed_7 : decode bc_Rotors_allowed 7 = .ok (.iload_n 1, 1) := by decide +kernel
theorem d_Rotors_allowed_8 : decode bc_Rotors_allowed 8 = .ok (.iconst 0, 1) := by decide +kernel
theorem d_Rotors_allowed_9 : decode bc_Rotors_allowed 9 = .ok (.sipush 255, 3) := by decide +kernel
theorem d_Rotors_allowed_12 : decode bc_Rotors_allowed 12 = .ok (.invokestatic 34, 3) := by decide +kernel
theorem d_Rotors_allowed_15 : decode bc_Rotors_allowed 15 = .ok (.ifCond .eq 43, 3) := by decide +kernel
theorem d_Rotors_allowed_18 : decode bc_Rotors_allowed 18 = .ok (.iload_n 2, 1) := by decide +kernel
theorem d_Rotors_allowed_19 : decode bc_Rotors_allowed 19 = .ok (.bipush 10, 2) := by decide +kernel
theorem d_Rotors_allowed_21 : decode bc_Rotors_allowed 21 = .ok (.sipush 300, 3) := by decide +kernel
theorem d_Rotors_allowed_24 : decode bc_Rotors_allowed 24 = .ok (.invokestatic 34, 3) := by decide +kernel
theorem d_Rotors_allowed_27 : decode bc_Rotors_allowed 27 = .ok (.ifCond .eq 31, 3) := by decide +kernel
theorem d_Rotors_allowed_30 : decode bc_Rotors_allowed 30 = .ok (.iload_n 3, 1) := by decide +kernel
theorem d_Rotors_allowed_31 : decode bc_Rotors_allowed 31 = .ok (.bipush 100, 2) := by decide +kernel
theorem d_Rotors_allowed_33 : decode bc_Rotors_allowed 33 = .ok (.sipush 20000, 3) := by decide +kernel
theorem d_Rotors_allowed_36 : decode bc_Rotors_allowed 36 = .ok (.invokestatic 34, 3) := by decide +kernel
theorem d_Rotors_allowed_39 : decode bc_Rotors_allowed 39 = .ok (.ifCond .eq 19, 3) := by decide +kernel
theorem d_Rotors_allowed_42 : decode bc_Rotors_allowed 42 = .ok (.iload 4, 2) := by decide +kernel
theorem d_Rotors_allowed_44 : decode bc_Rotors_allowed 44 = .ok (.iconst 1, 1) := by decide +kernel
theorem d_Rotors_allowed_45 : decode bc_Rotors_allowed 45 = .ok (.sipush 1000, 3) := by decide +kernel
theorem d_Rotors_allowed_48 : decode bc_Rotors_allowed 48 = .ok (.invokestatic 34, 3) := by decide +kernel
theorem d_Rotors_allowed_51 : decode bc_Rotors_allowed 51 = .ok (.ifCond .eq 7, 3) := by decide +kernel
theorem d_Rotors_allowed_54 : decode bc_Rotors_allowed 54 = .ok (.iconst 1, 1) := by decide +kernel
theorem d_Rotors_allowed_55 : decode bc_Rotors_allowed 55 = .ok (.goto 4, 3) := by decide +kernel
theorem d_Rotors_allowed_58 : decode bc_Rotors_allowed 58 = .ok (.iconst 0, 1) := by decide +kernel
theorem d_Rotors_allowed_59 : decode bc_Rotors_allowed 59 = .ok (.ireturn, 1) := by decide +kernel
def F_Rotors_allowed_k5 (M : XM) (a1 : Int32) (a2 : Int32) (a3 : Int32) (a4 : Int32) (a5 : Int32) (z1 : Int32) (z3 : Int32) (z5 : Int32) (z7 : Int32) (z9 : Int32) : Int32 := (if z9 = 0 then 0 else 1)
def F_Rotors_allowed_k4 (M : XM) (a1 : Int32) (a2 : Int32) (a3 : Int32) (a4 : Int32) (a5 : Int32) (z1 : Int32) (z3 : Int32) (z5 : Int32) (z7 : Int32) : Int32 := (if z7 = 0 then 0 else (F_Rotors_allowed_k5 M a1 a2 a3 a4 a5 z1 z3 z5 z7 (F_U_within M a5 1 1000)))
def F_Rotors_allowed_k3 (M : XM) (a1 : Int32) (a2 : Int32) (a3 : Int32) (a4 : Int32) (a5 : Int32) (z1 : Int32) (z3 : Int32) (z5 : Int32) : Int32 := (if z5 = 0 then 0 else (F_Rotors_allowed_k4 M a1 a2 a3 a4 a5 z1 z3 z5 (F_U_within M a4 100 20000)))
def F_Rotors_allowed_k2 (M : XM) (a1 : Int32) (a2 : Int32) (a3 : Int32) (a4 : Int32) (a5 : Int32) (z1 : Int32) (z3 : Int32) : Int32 := (if z3 = 0 then 0 else (F_Rotors_allowed_k3 M a1 a2 a3 a4 a5 z1 z3 (F_U_within M a3 10 300)))
def F_Rotors_allowed_k1 (M : XM) (a1 : Int32) (a2 : Int32) (a3 : Int32) (a4 : Int32) (a5 : Int32) (z1 : Int32) : Int32 := (if z1 = 0 then 0 else (F_Rotors_allowed_k2 M a1 a2 a3 a4 a5 z1 (F_U_within M a2 0 255)))
def F_Rotors_allowed (M : XM) (a1 : Int32) (a2 : Int32) (a3 : Int32) (a4 : Int32) (a5 : Int32) : Int32 := (F_Rotors_allowed_k1 M a1 a2 a3 a4 a5 (F_Rotors_exists M a1))
theorem f01_Rotors_allowed (M : XM) (a1 : Int32) (a2 : Int32) (a3 : Int32) (a4 : Int32) (a5 : Int32) : F_Rotors_allowed M a1 a2 a3 a4 a5 = 0 ∨ F_Rotors_allowed M a1 a2 a3 a4 a5 = 1 := by
  simp only [F_Rotors_allowed_k5, F_Rotors_allowed_k4, F_Rotors_allowed_k3, F_Rotors_allowed_k2, F_Rotors_allowed_k1, F_Rotors_allowed]; repeat' split
  all_goals first | exact Or.inl rfl | exact Or.inr rfl | exact f01_Rotors_exists _ _ | exact f01_U_within _ _ _ _ | simp
set_option maxHeartbeats 4000000 in
set_option maxRecDepth 100000 in
theorem c_Rotors_allowed (l : Launch) (dC : Nat → ClassId) (dI : Nat → Nat → Nat) (Z : Nat → ClassId) (A : Nat → Nat) (sz : Nat) (M : XM) (a1 : Int32) (a2 : Int32) (a3 : Int32) (a4 : Int32) (a5 : Int32) : Met l y_Rotors_allowed (.code y_Rotors_allowed bc_Rotors_allowed 5 (some .boolean) :: xw) ({ frames := 2, cells := 0, slots := 0, locals := 42 }) (va_Pc [.int a1, .int a2, .int a3, .int a4, .int a5] (xB (dC, dI) xcl (xty Z) sz [])) (k2_QcV (.int (F_Rotors_allowed M a1 a2 a3 a4 a5))) 0 0 (fun _ => False) := by
  refine Met.ofW (cc := bc_Rotors_allowed) (maxL := 5) (ret := (some .boolean)) (by decide) rfl ?_
  intro p e s m args below meth c s₁ B hml hv
  obtain ⟨rfl, hsz, hP, hK, hD0, hq⟩ := hv
  have hx := B.exec
  have hb := B.bytes
  have hr := B.returns
  have hts := atoms_spec (ws := (.code y_Rotors_allowed bc_Rotors_allowed 5 (some .boolean) :: xw)) B.pre
  have htt : ∀ w ∈ xw, w.before _ s = true := fun w h => hts w (List.mem_cons_of_mem _ h)
  have hown : s.vm.findClass "CentrifugeUnit$Rotors" = some m.cls := findClass_of_methodNamed B.named
  have hlocks := B.notSynchronized
  subst hsz
  have hD : va_D (fun _ => True) [] := hD0
  have hP : va_P (dC, dI) xcl [] s.heap := hP
  have hl := lv_entry ([.int a1, .int a2, .int a3, .int a4, .int a5]) (n := 5) (Nat.le_of_ble_eq_true rfl)
  rw [lg_entry_eq]
  generalize (lg_sl ([.int a1, .int a2, .int a3, .int a4, .int a5]) ++ List.replicate (5 - (lg_sl ([.int a1, .int a2, .int a3, .int a4, .int a5])).length) Slot.unset).toArray = ls at hl ⊢
  have hl : lv_has ls 5 [(0, .int a1), (1, .int a2), (2, .int a3), (3, .int a4), (4, .int a5)] := hl
  refine lv_iload_n hx hb d_Rotors_allowed_0 rfl (lv_at hl 0 rfl) ?_
  have hPc := hP.sub (ws' := []) [] rfl
  have hDc := hD.sub (ws' := []) [] (by decide) rfl
  refine xk_p (va_runS (As := [.int a1]) (rest := []) ⟨hx, hb, hml, hown, hts⟩ (c_Rotors_exists l dC dI Z A _ M a1) (va_cwS 1 hts (xw_S _ tw_322 tw_323 tw_2 tw_324) rfl rfl rfl (by decide +kernel) ⟨Nat.le_of_ble_eq_true rfl, Nat.le_of_ble_eq_true rfl⟩) ⟨xB_blind, fun U hU hW => ⟨rfl, xB_at hPc hK hDc hq U hU hW⟩⟩ rfl rfl hl.1 rfl (lv_room (Nat.le_of_ble_eq_true rfl)) d_Rotors_allowed_1 ⟨Nat.le_of_ble_eq_true rfl, Nat.le_of_ble_eq_true rfl⟩) ?_
  refine lv_topi (fun z1 hz1 => ?_)
  refine lv_if_eq (tgt := 58) hx hb d_Rotors_allowed_4 rfl (fun h2 => ?_) (fun h2 => ?_)
  · refine lv_iconst (v := 0) hx hb d_Rotors_allowed_58 (by decide) ?_
    exact W.zret (ty := .boolean) hx hb hr rfl (fun t ht hW => ⟨(by rw [F_Rotors_allowed, ← hz1, F_Rotors_allowed_k1, if_pos h2]), ht⟩) (fun _ h => absurd h List.not_mem_nil) d_Rotors_allowed_59
  · refine lv_iload_n hx hb d_Rotors_allowed_7 rfl (lv_at hl 1 rfl) ?_
    refine lv_iconst (v := 0) hx hb d_Rotors_allowed_8 (by decide) ?_
    refine lv_sipush (v := 255) hx hb d_Rotors_allowed_9 (by decide) ?_
    have hPc := hP.sub (ws' := []) [] rfl
    have hDc := hD.sub (ws' := []) [] (by decide) rfl
    refine xk_p (va_runSN (As := [.int a2, .int 0, .int 255]) (rest := []) ⟨hx, hb, hml, hown, hts⟩ (c_U_within l dC dI Z A _ M a2 0 255) ⟨va_cnB 3 hts (xw_call _ tw_327) rfl rfl rfl (hq.1 ("CentrifugeUnit$Rotors", 34, y_U_within, "CentrifugeUnit") (by decide +kernel)) (htt _ tw_1) (by decide +kernel) ⟨Nat.le_of_ble_eq_true rfl, Nat.le_of_ble_eq_true rfl⟩, htt _ tw_326, trivial⟩ ⟨xB_blind, fun U hU hW => ⟨rfl, xB_at hPc hK hDc hq U hU hW⟩⟩ rfl rfl hl.1 rfl (lv_room (Nat.le_of_ble_eq_true rfl)) d_Rotors_allowed_12 ⟨Nat.le_of_ble_eq_true rfl, Nat.le_of_ble_eq_true rfl⟩) ?_
    refine lv_topi (fun z3 hz3 => ?_)
    refine lv_if_eq (tgt := 58) hx hb d_Rotors_allowed_15 rfl (fun h4 => ?_) (fun h4 => ?_)
    · refine lv_iconst (v := 0) hx hb d_Rotors_allowed_58 (by decide) ?_
      exact W.zret (ty := .boolean) hx hb hr rfl (fun t ht hW => ⟨(by rw [F_Rotors_allowed, ← hz1, F_Rotors_allowed_k1, if_neg h2, ← hz3, F_Rotors_allowed_k2, if_pos h4]), ht⟩) (fun _ h => absurd h List.not_mem_nil) d_Rotors_allowed_59
    · refine lv_iload_n hx hb d_Rotors_allowed_18 rfl (lv_at hl 2 rfl) ?_
      refine lv_bipush (v := 10) hx hb d_Rotors_allowed_19 (by decide) ?_
      refine lv_sipush (v := 300) hx hb d_Rotors_allowed_21 (by decide) ?_
      have hPc := hP.sub (ws' := []) [] rfl
      have hDc := hD.sub (ws' := []) [] (by decide) rfl
      refine xk_p (va_runSN (As := [.int a3, .int 10, .int 300]) (rest := []) ⟨hx, hb, hml, hown, hts⟩ (c_U_within l dC dI Z A _ M a3 10 300) ⟨va_cnB 3 hts (xw_call _ tw_327) rfl rfl rfl (hq.1 ("CentrifugeUnit$Rotors", 34, y_U_within, "CentrifugeUnit") (by decide +kernel)) (htt _ tw_1) (by decide +kernel) ⟨Nat.le_of_ble_eq_true rfl, Nat.le_of_ble_eq_true rfl⟩, htt _ tw_326, trivial⟩ ⟨xB_blind, fun U hU hW => ⟨rfl, xB_at hPc hK hDc hq U hU hW⟩⟩ rfl rfl hl.1 rfl (lv_room (Nat.le_of_ble_eq_true rfl)) d_Rotors_allowed_24 ⟨Nat.le_of_ble_eq_true rfl, Nat.le_of_ble_eq_true rfl⟩) ?_
      refine lv_topi (fun z5 hz5 => ?_)
      refine lv_if_eq (tgt := 58) hx hb d_Rotors_allowed_27 rfl (fun h6 => ?_) (fun h6 => ?_)
      · refine lv_iconst (v := 0) hx hb d_Rotors_allowed_58 (by decide) ?_
        exact W.zret (ty := .boolean) hx hb hr rfl (fun t ht hW => ⟨(by rw [F_Rotors_allowed, ← hz1, F_Rotors_allowed_k1, if_neg h2, ← hz3, F_Rotors_allowed_k2, if_neg h4, ← hz5, F_Rotors_allowed_k3, if_pos h6]), ht⟩) (fun _ h => absurd h List.not_mem_nil) d_Rotors_allowed_59
      · refine lv_iload_n hx hb d_Rotors_allowed_30 rfl (lv_at hl 3 rfl) ?_
        refine lv_bipush (v := 100) hx hb d_Rotors_allowed_31 (by decide) ?_
        refine lv_sipush (v := 20000) hx hb d_Rotors_allowed_33 (by decide) ?_
        have hPc := hP.sub (ws' := []) [] rfl
        have hDc := hD.sub (ws' := []) [] (by decide) rfl
        refine xk_p (va_runSN (As := [.int a4, .int 100, .int 20000]) (rest := []) ⟨hx, hb, hml, hown, hts⟩ (c_U_within l dC dI Z A _ M a4 100 20000) ⟨va_cnB 3 hts (xw_call _ tw_327) rfl rfl rfl (hq.1 ("CentrifugeUnit$Rotors", 34, y_U_within, "CentrifugeUnit") (by decide +kernel)) (htt _ tw_1) (by decide +kernel) ⟨Nat.le_of_ble_eq_true rfl, Nat.le_of_ble_eq_true rfl⟩, htt _ tw_326, trivial⟩ ⟨xB_blind, fun U hU hW => ⟨rfl, xB_at hPc hK hDc hq U hU hW⟩⟩ rfl rfl hl.1 rfl (lv_room (Nat.le_of_ble_eq_true rfl)) d_Rotors_allowed_36 ⟨Nat.le_of_ble_eq_true rfl, Nat.le_of_ble_eq_true rfl⟩) ?_
        refine lv_topi (fun z7 hz7 => ?_)
        refine lv_if_eq (tgt := 58) hx hb d_Rotors_allowed_39 rfl (fun h8 => ?_) (fun h8 => ?_)
        · refine lv_iconst (v := 0) hx hb d_Rotors_allowed_58 (by decide) ?_
          exact W.zret (ty := .boolean) hx hb hr rfl (fun t ht hW => ⟨(by rw [F_Rotors_allowed, ← hz1, F_Rotors_allowed_k1, if_neg h2, ← hz3, F_Rotors_allowed_k2, if_neg h4, ← hz5, F_Rotors_allowed_k3, if_neg h6, ← hz7, F_Rotors_allowed_k4, if_pos h8]), ht⟩) (fun _ h => absurd h List.not_mem_nil) d_Rotors_allowed_59
        · refine lv_iload hx hb d_Rotors_allowed_42 (lv_at hl 4 rfl) ?_
          refine lv_iconst (v := 1) hx hb d_Rotors_allowed_44 (by decide) ?_
          refine lv_sipush (v := 1000) hx hb d_Rotors_allowed_45 (by decide) ?_
          have hPc := hP.sub (ws' := []) [] rfl
          have hDc := hD.sub (ws' := []) [] (by decide) rfl
          refine xk_p (va_runSN (As := [.int a5, .int 1, .int 1000]) (rest := []) ⟨hx, hb, hml, hown, hts⟩ (c_U_within l dC dI Z A _ M a5 1 1000) ⟨va_cnB 3 hts (xw_call _ tw_327) rfl rfl rfl (hq.1 ("CentrifugeUnit$Rotors", 34, y_U_within, "CentrifugeUnit") (by decide +kernel)) (htt _ tw_1) (by decide +kernel) ⟨Nat.le_of_ble_eq_true rfl, Nat.le_of_ble_eq_true rfl⟩, htt _ tw_326, trivial⟩ ⟨xB_blind, fun U hU hW => ⟨rfl, xB_at hPc hK hDc hq U hU hW⟩⟩ rfl rfl hl.1 rfl (lv_room (Nat.le_of_ble_eq_true rfl)) d_Rotors_allowed_48 ⟨Nat.le_of_ble_eq_true rfl, Nat.le_of_ble_eq_true rfl⟩) ?_
          refine lv_topi (fun z9 hz9 => ?_)
          refine lv_if_eq (tgt := 58) hx hb d_Rotors_allowed_51 rfl (fun h10 => ?_) (fun h10 => ?_)
          · refine lv_iconst (v := 0) hx hb d_Rotors_allowed_58 (by decide) ?_
            exact W.zret (ty := .boolean) hx hb hr rfl (fun t ht hW => ⟨(by rw [F_Rotors_allowed, ← hz1, F_Rotors_allowed_k1, if_neg h2, ← hz3, F_Rotors_allowed_k2, if_neg h4, ← hz5, F_Rotors_allowed_k3, if_neg h6, ← hz7, F_Rotors_allowed_k4, if_neg h8, ← hz9, F_Rotors_allowed_k5, if_pos h10]), ht⟩) (fun _ h => absurd h List.not_mem_nil) d_Rotors_allowed_59
          · refine lv_iconst (v := 1) hx hb d_Rotors_allowed_54 (by decide) ?_
            refine lv_goto (tgt := 59) hx hb d_Rotors_allowed_55 rfl ?_
            exact W.zret (ty := .boolean) hx hb hr rfl (fun t ht hW => ⟨(by rw [F_Rotors_allowed, ← hz1, F_Rotors_allowed_k1, if_neg h2, ← hz3, F_Rotors_allowed_k2, if_neg h4, ← hz5, F_Rotors_allowed_k3, if_neg h6, ← hz7, F_Rotors_allowed_k4, if_neg h8, ← hz9, F_Rotors_allowed_k5, if_neg h10]), ht⟩) (fun _ h => absurd h List.not_mem_nil) d_Rotors_allowed_59
abbrev bc_Rotors_withPattern : ByteArray := prog_7_method_6_code
def y_Rotors_withPattern : MethodName := ⟨"CentrifugeUnit$Rotors", "withPattern", "(I)I"⟩
theorem d_Rotors_withPattern_0 : decode bc_Rotors_withPattern 0 = .ok (.iconst 0, 1) := by decide +kernel
theorem d_Rotors_withPattern_1 : decode bc_Rotors_withPattern 1 = .ok (.istore_n 2, 1) := by decide +kernel
theorem d_Rotors_withPattern_2 : decode bc_Rotors_withPattern 2 = .ok (.iload_n 2, 1) := by decide +kernel
theorem d_Rotors_withPattern_3 : decode bc_Rotors_withPattern 3 = .ok (.iconst 4, 1) := by decide +kernel
theorem d_Rotors_withPattern_4 : decode bc_Rotors_withPattern 4 = .ok (.if_icmp .ge 26, 3) := by decide +kernel
theorem d_Rotors_withPattern_7 : decode bc_Rotors_withPattern 7 = .ok (.iload_n 1, 1) := by decide +kernel
theorem d_Rotors_withPattern_8 : decode bc_Rotors_withPattern 8 = .ok (.iconst (-1), 1) := by decide +kernel
theorem d_Rotors_withPattern_9 : decode bc_Rotors_withPattern 9 = .ok (.if_icmp .eq 15, 3) := by decide +kernel
theorem d_Rotors_withPattern_12 : decode bc_Rotors_withPattern 12 = .ok (.aload_n 0, 1) := by decide +kernel
theorem d_Rotors_withPattern_13 : decode bc_Rotors_withPattern 13 = .ok (.getfield 11, 3) := by decide +kernel
theorem d_Rotors_withPattern_16 : decode bc_Rotors_withPattern 16 = .ok (.iload_n 2, 1) := by decide +kernel
theorem d_Rotors_withPattern_17 : decode bc_Rotors_withPattern 17 = .ok (.iaload, 1) := by decide +kernel
theorem d_Rotors_withPattern_18 : decode bc_Rotors_withPattern 18 = .ok (.iload_n 1, 1) := by decide +kernel
theorem d_Rotors_withPattern_19 : decode bc_Rotors_withPattern 19 = .ok (.if_icmp .ne 5, 3) := by decide +kernel
theorem d_Rotors_withPattern_22 : decode bc_Rotors_withPattern 22 = .ok (.iload_n 2, 1) := by decide +kernel
theorem d_Rotors_withPattern_23 : decode bc_Rotors_withPattern 23 = .ok (.ireturn, 1) := by decide +kernel
theorem d_Rotors_withPattern_24 : decode bc_Rotors_withPattern 24 = .ok (.iinc 2 1, 3) := by decide +kernel
theorem d_Rotors_withPattern_27 : decode bc_Rotors_withPattern 27 = .ok (.goto (-25), 3) := by decide +kernel
theorem d_Rotors_withPattern_30 : decode bc_Rotors_withPattern 30 = .ok (.iconst (-1), 1) := by decide +kernel
theorem d_Rotors_withPattern_31 : decode bc_Rotors_withPattern 31 = .ok (.ireturn, 1) := by decide +kernel
def F_Rotors_withPattern (M : XM) (a1 : Int32) : Int32 := (if a1 = (-1) then (-1) else (if ((M.2.2.1 2) 0) = a1 then 0 else (if ((M.2.2.1 2) 1) = a1 then 1 else (if ((M.2.2.1 2) 2) = a1 then 2 else (if ((M.2.2.1 2) 3) = a1 then 3 else (-1))))))
set_option maxHeartbeats 4000000 in
set_option maxRecDepth 100000 in
theorem c_Rotors_withPattern (l : Launch) (dC : Nat → ClassId) (dI : Nat → Nat → Nat) (Z : Nat → ClassId) (A : Nat → Nat) (sz : Nat) (M : XM) (a1 : Int32) : Met l y_Rotors_withPattern (.code y_Rotors_withPattern bc_Rotors_withPattern 3 (some .int) :: xw) ({ frames := 0, cells := 0, slots := 0, locals := 0 }) (va_Pc [.ref (A 1), .int a1] (xB (dC, dI) xcl (xty Z) sz [(A 1, xc1 Z A M), (A 2, xc2 Z A M)])) (k2_QcV (.int (F_Rotors_withPattern M a1))) 0 0 (fun _ => False) := by
  refine Met.ofW (cc := bc_Rotors_withPattern) (maxL := 3) (ret := (some .int)) (by decide) rfl ?_
  intro p e s m args below meth c s₁ B hml hv
  obtain ⟨rfl, hsz, hP, hK, hD0, hq⟩ := hv
  have hx := B.exec
  have hb := B.bytes
  have hr := B.returns
  have hts := atoms_spec (ws := (.code y_Rotors_withPattern bc_Rotors_withPattern 3 (some .int) :: xw)) B.pre
  have htt : ∀ w ∈ xw, w.before _ s = true := fun w h => hts w (List.mem_cons_of_mem _ h)
  have hown : s.vm.findClass "CentrifugeUnit$Rotors" = some m.cls := findClass_of_methodNamed B.named
  have hlocks := B.notSynchronized
  subst hsz
  have hD : va_D (fun _ => True) [(A 1, .inr (5, [.ref (A 2), .ref (A 3), .ref (A 4), .ref (A 5), .int (M.1 0)])), (A 2, .inl (Z 0, 4, .inl (M.2.2.1 2)))] := hD0
  have hP : va_P (dC, dI) xcl [(A 1, .inr (5, [.ref (A 2), .ref (A 3), .ref (A 4), .ref (A 5), .int (M.1 0)])), (A 2, .inl (Z 0, 4, .inl (M.2.2.1 2)))] s.heap := hP
  have hl := lv_entry ([.ref (A 1), .int a1]) (n := 3) (Nat.le_of_ble_eq_true rfl)
  rw [lg_entry_eq]
  generalize (lg_sl ([.ref (A 1), .int a1]) ++ List.replicate (3 - (lg_sl ([.ref (A 1), .int a1])).length) Slot.unset).toArray = ls at hl ⊢
  have hl : lv_has ls 3 [(0, .ref (A 1)), (1, .int a1)] := hl
  refine lv_iconst (v := 0) hx hb d_Rotors_withPattern_0 (by decide) ?_
  refine lv_istore_n (lv' := [(2, .int 0), (0, .ref (A 1)), (1, .int a1)]) hx hb d_Rotors_withPattern_1 rfl hl (by decide) rfl (fun ls hl => ?_)
  refine lv_iload_n hx hb d_Rotors_withPattern_2 rfl (lv_at hl 0 rfl) ?_
  refine lv_iconst (v := 4) hx hb d_Rotors_withPattern_3 (by decide) ?_
  refine lv_icmp_ge (tgt := 30) hx hb d_Rotors_withPattern_4 rfl (fun h => absurd h (by decide)) (fun _ => ?_)
  refine lv_iload_n hx hb d_Rotors_withPattern_7 rfl (lv_at hl 2 rfl) ?_
  refine lv_iconst (v := (-1)) hx hb d_Rotors_withPattern_8 (by decide) ?_
  refine lv_icmp_eq (tgt := 24) hx hb d_Rotors_withPattern_9 rfl (fun h1 => ?_) (fun h1 => ?_)
  · refine lv_iinc (k := 0) (v := 1) (lv' := [(2, .int 1), (0, .ref (A 1)), (1, .int a1)]) hx hb d_Rotors_withPattern_24 hl rfl (by decide) (by decide) rfl (fun ls hl => ?_)
    refine lv_goto (tgt := 2) hx hb d_Rotors_withPattern_27 rfl ?_
    refine lv_iload_n hx hb d_Rotors_withPattern_2 rfl (lv_at hl 0 rfl) ?_
    refine lv_iconst (v := 4) hx hb d_Rotors_withPattern_3 (by decide) ?_
    refine lv_icmp_ge (tgt := 30) hx hb d_Rotors_withPattern_4 rfl (fun h => absurd h (by decide)) (fun _ => ?_)
    refine lv_iload_n hx hb d_Rotors_withPattern_7 rfl (lv_at hl 2 rfl) ?_
    refine lv_iconst (v := (-1)) hx hb d_Rotors_withPattern_8 (by decide) ?_
    refine lv_icmp_eq (tgt := 24) hx hb d_Rotors_withPattern_9 rfl (fun _ => ?_) (fun h => absurd h1 h)
    refine lv_iinc (k := 0) (v := 2) (lv' := [(2, .int 2), (0, .ref (A 1)), (1, .int a1)]) hx hb d_Rotors_withPattern_24 hl rfl (by decide) (by decide) rfl (fun ls hl => ?_)
    refine lv_goto (tgt := 2) hx hb d_Rotors_withPattern_27 rfl ?_
    refine lv_iload_n hx hb d_Rotors_withPattern_2 rfl (lv_at hl 0 rfl) ?_
    refine lv_iconst (v := 4) hx hb d_Rotors_withPattern_3 (by decide) ?_
    refine lv_icmp_ge (tgt := 30) hx hb d_Rotors_withPattern_4 rfl (fun h => absurd h (by decide)) (fun _ => ?_)
    refine lv_iload_n hx hb d_Rotors_withPattern_7 rfl (lv_at hl 2 rfl) ?_
    refine lv_iconst (v := (-1)) hx hb d_Rotors_withPattern_8 (by decide) ?_
    refine lv_icmp_eq (tgt := 24) hx hb d_Rotors_withPattern_9 rfl (fun _ => ?_) (fun h => absurd h1 h)
    refine lv_iinc (k := 0) (v := 3) (lv' := [(2, .int 3), (0, .ref (A 1)), (1, .int a1)]) hx hb d_Rotors_withPattern_24 hl rfl (by decide) (by decide) rfl (fun ls hl => ?_)
    refine lv_goto (tgt := 2) hx hb d_Rotors_withPattern_27 rfl ?_
    refine lv_iload_n hx hb d_Rotors_withPattern_2 rfl (lv_at hl 0 rfl) ?_
    refine lv_iconst (v := 4) hx hb d_Rotors_withPattern_3 (by decide) ?_
    refine lv_icmp_ge (tgt := 30) hx hb d_Rotors_withPattern_4 rfl (fun h => absurd h (by decide)) (fun _ => ?_)
    refine lv_iload_n hx hb d_Rotors_withPattern_7 rfl (lv_at hl 2 rfl) ?_
    refine lv_iconst (v := (-1)) hx hb d_Rotors_withPattern_8 (by decide) ?_
    refine lv_icmp_eq (tgt := 24) hx hb d_Rotors_withPattern_9 rfl (fun _ => ?_) (fun h => absurd h1 h)
    refine lv_iinc (k := 0) (v := 4) (lv' := [(2, .int 4), (0, .ref (A 1)), (1, .int a1)]) hx hb d_Rotors_withPattern_24 hl rfl (by decide) (by decide) rfl (fun ls hl => ?_)
    refine lv_goto (tgt := 2) hx hb d_Rotors_withPattern_27 rfl ?_
    refine lv_iload_n hx hb d_Rotors_withPattern_2 rfl (lv_at hl 0 rfl) ?_
    refine lv_iconst (v := 4) hx hb d_Rotors_withPattern_3 (by decide) ?_
    refine lv_icmp_ge (tgt := 30) hx hb d_Rotors_withPattern_4 rfl (fun _ => ?_) (fun h => absurd h (by decide))
    refine lv_iconst (v := (-1)) hx hb d_Rotors_withPattern_30 (by decide) ?_
    exact W.iret hx hb hr (fun t ht hW => ⟨(by rw [F_Rotors_withPattern, if_pos h1]), ht⟩) (fun _ h => absurd h List.not_mem_nil) d_Rotors_withPattern_31
  · refine lv_aload_n hx hb d_Rotors_withPattern_12 rfl (lv_at hl 1 rfl) ?_
    refine va_get (D := (dC, dI)) (ci := 5) (v := .ref (A 2)) (C := "CentrifugeUnit$Rotors") (T := xF5) (N := 5) hx hb htt xin5 hown hK hP 0 rfl rfl 0 (by decide) (htt _ tw_37) (fun _ h9 => h9) rfl d_Rotors_withPattern_13 ?_
    refine lv_iload_n hx hb d_Rotors_withPattern_16 rfl (lv_at hl 0 rfl) ?_
    refine va_iald (D := (dC, dI)) hx hb hK hP 1 0 rfl rfl (by unfold vp_in; decide) d_Rotors_withPattern_17 ?_
    refine W.eq (g2 := F0 m 18 ls [.int ((M.2.2.1 2) 0)]) rfl ?_
    refine lv_iload_n hx hb d_Rotors_withPattern_18 rfl (lv_at hl 2 rfl) ?_
    refine lv_icmp_ne (tgt := 24) hx hb d_Rotors_withPattern_19 rfl (fun h2 => ?_) (fun h2 => ?_)
    · refine lv_iinc (k := 0) (v := 1) (lv' := [(2, .int 1), (0, .ref (A 1)), (1, .int a1)]) hx hb d_Rotors_withPattern_24 hl rfl (by decide) (by decide) rfl (fun ls hl => ?_)
      refine lv_goto (tgt := 2) hx hb d_Rotors_withPattern_27 rfl ?_
      refine lv_iload_n hx hb d_Rotors_withPattern_2 rfl (lv_at hl 0 rfl) ?_
      refine lv_iconst (v := 4) hx hb d_Rotors_withPattern_3 (by decide) ?_
      refine lv_icmp_ge (tgt := 30) hx hb d_Rotors_withPattern_4 rfl (fun h => absurd h (by decide)) (fun _ => ?_)
      refine lv_iload_n hx hb d_Rotors_withPattern_7 rfl (lv_at hl 2 rfl) ?_
      refine lv_iconst (v := (-1)) hx hb d_Rotors_withPattern_8 (by decide) ?_
      refine lv_icmp_eq (tgt := 24) hx hb d_Rotors_withPattern_9 rfl (fun h => absurd h h1) (fun _ => ?_)
      refine lv_aload_n hx hb d_Rotors_withPattern_12 rfl (lv_at hl 1 rfl) ?_
      refine va_get (D := (dC, dI)) (ci := 5) (v := .ref (A 2)) (C := "CentrifugeUnit$Rotors") (T := xF5) (N := 5) hx hb htt xin5 hown hK hP 0 rfl rfl 0 (by decide) (htt _ tw_37) (fun _ h9 => h9) rfl d_Rotors_withPattern_13 ?_
      refine lv_iload_n hx hb d_Rotors_withPattern_16 rfl (lv_at hl 0 rfl) ?_
      refine va_iald (D := (dC, dI)) hx hb hK hP 1 0 rfl rfl (by unfold vp_in; decide) d_Rotors_withPattern_17 ?_
      refine W.eq (g2 := F0 m 18 ls [.int ((M.2.2.1 2) 1)]) rfl ?_
      refine lv_iload_n hx hb d_Rotors_withPattern_18 rfl (lv_at hl 2 rfl) ?_
      refine lv_icmp_ne (tgt := 24) hx hb d_Rotors_withPattern_19 rfl (fun h3 => ?_) (fun h3 => ?_)
      · refine lv_iinc (k := 0) (v := 2) (lv' := [(2, .int 2), (0, .ref (A 1)), (1, .int a1)]) hx hb d_Rotors_withPattern_24 hl rfl (by decide) (by decide) rfl (fun ls hl => ?_)
        refine lv_goto (tgt := 2) hx hb d_Rotors_withPattern_27 rfl ?_
        refine lv_iload_n hx hb d_Rotors_withPattern_2 rfl (lv_at hl 0 rfl) ?_
        refine lv_iconst (v := 4) hx hb d_Rotors_withPattern_3 (by decide) ?_
        refine lv_icmp_ge (tgt := 30) hx hb d_Rotors_withPattern_4 rfl (fun h => absurd h (by decide)) (fun _ => ?_)
        refine lv_iload_n hx hb d_Rotors_withPattern_7 rfl (lv_at hl 2 rfl) ?_
        refine lv_iconst (v := (-1)) hx hb d_Rotors_withPattern_8 (by decide) ?_
        refine lv_icmp_eq (tgt := 24) hx hb d_Rotors_withPattern_9 rfl (fun h => absurd h h1) (fun _ => ?_)
        refine lv_aload_n hx hb d_Rotors_withPattern_12 rfl (lv_at hl 1 rfl) ?_
        refine va_get (D := (dC, dI)) (ci := 5) (v := .ref (A 2)) (C := "CentrifugeUnit$Rotors") (T := xF5) (N := 5) hx hb htt xin5 hown hK hP 0 rfl rfl 0 (by decide) (htt _ tw_37) (fun _ h9 => h9) rfl d_Rotors_withPattern_13 ?_
        refine lv_iload_n hx hb d_Rotors_withPattern_16 rfl (lv_at hl 0 rfl) ?_
        refine va_iald (D := (dC, dI)) hx hb hK hP 1 0 rfl rfl (by unfold vp_in; decide) d_Rotors_withPattern_17 ?_
        refine W.eq (g2 := F0 m 18 ls [.int ((M.2.2.1 2) 2)]) rfl ?_
        refine lv_iload_n hx hb d_Rotors_withPattern_18 rfl (lv_at hl 2 rfl) ?_
        refine lv_icmp_ne (tgt := 24) hx hb d_Rotors_withPattern_19 rfl (fun h4 => ?_) (fun h4 => ?_)
        · refine lv_iinc (k := 0) (v := 3) (lv' := [(2, .int 3), (0, .ref (A 1)), (1, .int a1)]) hx hb d_Rotors_withPattern_24 hl rfl (by decide) (by decide) rfl (fun ls hl => ?_)
          refine lv_goto (tgt := 2) hx hb d_Rotors_withPattern_27 rfl ?_
          refine lv_iload_n hx hb d_Rotors_withPattern_2 rfl (lv_at hl 0 rfl) ?_
          refine lv_iconst (v := 4) hx hb d_Rotors_withPattern_3 (by decide) ?_
          refine lv_icmp_ge (tgt := 30) hx hb d_Rotors_withPattern_4 rfl (fun h => absurd h (by decide)) (fun _ => ?_)
          refine lv_iload_n hx hb d_Rotors_withPattern_7 rfl (lv_at hl 2 rfl) ?_
          refine lv_iconst (v := (-1)) hx hb d_Rotors_withPattern_8 (by decide) ?_
          refine lv_icmp_eq (tgt := 24) hx hb d_Rotors_withPattern_9 rfl (fun h => absurd h h1) (fun _ => ?_)
          refine lv_aload_n hx hb d_Rotors_withPattern_12 rfl (lv_at hl 1 rfl) ?_
          refine va_get (D := (dC, dI)) (ci := 5) (v := .ref (A 2)) (C := "CentrifugeUnit$Rotors") (T := xF5) (N := 5) hx hb htt xin5 hown hK hP 0 rfl rfl 0 (by decide) (htt _ tw_37) (fun _ h9 => h9) rfl d_Rotors_withPattern_13 ?_
          refine lv_iload_n hx hb d_Rotors_withPattern_16 rfl (lv_at hl 0 rfl) ?_
          refine va_iald (D := (dC, dI)) hx hb hK hP 1 0 rfl rfl (by unfold vp_in; decide) d_Rotors_withPattern_17 ?_
          refine W.eq (g2 := F0 m 18 ls [.int ((M.2.2.1 2) 3)]) rfl ?_
          refine lv_iload_n hx hb d_Rotors_withPattern_18 rfl (lv_at hl 2 rfl) ?_
          refine lv_icmp_ne (tgt := 24) hx hb d_Rotors_withPattern_19 rfl (fun h5 => ?_) (fun h5 => ?_)
          · refine lv_iinc (k := 0) (v := 4) (lv' := [(2, .int 4), (0, .ref (A 1)), (1, .int a1)]) hx hb d_Rotors_withPattern_24 hl rfl (by decide) (by decide) rfl (fun ls hl => ?_)
            refine lv_goto (tgt := 2) hx hb d_Rotors_withPattern_27 rfl ?_
            refine lv_iload_n hx hb d_Rotors_withPattern_2 rfl (lv_at hl 0 rfl) ?_
            refine lv_iconst (v := 4) hx hb d_Rotors_withPattern_3 (by decide) ?_
            refine lv_icmp_ge (tgt := 30) hx hb d_Rotors_withPattern_4 rfl (fun _ => ?_) (fun h => absurd h (by decide))
            refine lv_iconst (v := (-1)) hx hb d_Rotors_withPattern_30 (by decide) ?_
            exact W.iret hx hb hr (fun t ht hW => ⟨(by rw [F_Rotors_withPattern, if_neg h1, if_neg h2, if_neg h3, if_neg h4, if_neg h5]), ht⟩) (fun _ h => absurd h List.not_mem_nil) d_Rotors_withPattern_31
          · refine lv_iload_n hx hb d_Rotors_withPattern_22 rfl (lv_at hl 0 rfl) ?_
            exact W.iret hx hb hr (fun t ht hW => ⟨(by rw [F_Rotors_withPattern, if_neg h1, if_neg h2, if_neg h3, if_neg h4, if_pos h5]), ht⟩) (fun _ h => absurd h List.not_mem_nil) d_Rotors_withPattern_23
        · refine lv_iload_n hx hb d_Rotors_withPattern_22 rfl (lv_at hl 0 rfl) ?_
          exact W.iret hx hb hr (fun t ht hW => ⟨(by rw [F_Rotors_withPattern, if_neg h1, if_neg h2, if_neg h3, if_pos h4]), ht⟩) (fun _ h => absurd h List.not_mem_nil) d_Rotors_withPattern_23
      · refine lv_iload_n hx hb d_Rotors_withPattern_22 rfl (lv_at hl 0 rfl) ?_
        exact W.iret hx hb hr (fun t ht hW => ⟨(by rw [F_Rotors_withPattern, if_neg h1, if_neg h2, if_pos h3]), ht⟩) (fun _ h => absurd h List.not_mem_nil) d_Rotors_withPattern_23
    · refine lv_iload_n hx hb d_Rotors_withPattern_22 rfl (lv_at hl 0 rfl) ?_
      exact W.iret hx hb hr (fun t ht hW => ⟨(by rw [F_Rotors_withPattern, if_neg h1, if_pos h2]), ht⟩) (fun _ h => absurd h List.not_mem_nil) d_Rotors_withPattern_23
abbrev bc_Rotors_anotherHas : ByteArray := prog_7_method_4_code
def y_Rotors_anotherHas : MethodName := ⟨"CentrifugeUnit$Rotors", "anotherHas", "(II)Z"⟩
theorem d_Rotors_anotherHas_0 : decode bc_Rotors_anotherHas 0 = .ok (.aload_n 0, 1) := by decide +kernel
theorem d_Rotors_anotherHas_1 : decode bc_Rotors_anotherHas 1 = .ok (.iload_n 2, 1) := by decide +kernel
theorem d_Rotors_anotherHas_2 : decode bc_Rotors_anotherHas 2 = .ok (.invokevirtual 42, 3) := by decide +kernel
theorem d_Rotors_anotherHas_5 : decode bc_Rotors_anotherHas 5 = .ok (.istore_n 3, 1) := by decide +kernel
theorem d_Rotors_anotherHas_6 : decode bc_Rotors_anotherHas 6 = .ok (.iload_n 3, 1) := by decide +kernel
theorem d_Rotors_anotherHas_7 : decode bc_Rotors_anotherHas 7 = .ok (.iconst (-1), 1) := by decide +kernel
theorem d_Rotors_anotherHas_8 : decode bc_Rotors_anotherHas 8 = .ok (.if_icmp .eq 12, 3) := by decide +kernel
theorem d_Rotors_anotherHas_11 : decode bc_Rotors_anotherHas 11 = .ok (.iload_n 3, 1) := by decide +kernel
theorem d_Rotors_anotherHas_12 : decode bc_Rotors_anotherHas 12 = .ok (.iload_n 1, 1) := by decide +kernel
theorem d_Rotors_anotherHas_13 : decode bc_Rotors_anotherHas 13 = .ok (.if_icmp .eq 7, 3) := by decide +kernel
theorem d_Rotors_anotherHas_16 : decode bc_Rotors_anotherHas 16 = .ok (.iconst 1, 1) := by decide +kernel
theorem d_Rotors_anotherHas_17 : decode bc_Rotors_anotherHas 17 = .ok (.goto 4, 3) := by decide +kernel
theorem d_Rotors_anotherHas_20 : decode bc_Rotors_anotherHas 20 = .ok (.iconst 0, 1) := by decide +kernel
theorem d_Rotors_anotherHas_21 : decode bc_Rotors_anotherHas 21 = .ok (.ireturn, 1) := by decide +kernel
def F_Rotors_anotherHas_k1 (M : XM) (a1 : Int32) (a2 : Int32) (z1 : Int32) : Int32 := (if z1 = (-1) then 0 else (if z1 = a1 then 0 else 1))
def F_Rotors_anotherHas (M : XM) (a1 : Int32) (a2 : Int32) : Int32 := (F_Rotors_anotherHas_k1 M a1 a2 (F_Rotors_withPattern M a2))
theorem f01_Rotors_anotherHas (M : XM) (a1 : Int32) (a2 : Int32) : F_Rotors_anotherHas M a1 a2 = 0 ∨ F_Rotors_anotherHas M a1 a2 = 1 := by
  simp only [F_Rotors_anotherHas_k1, F_Rotors_anotherHas]; repeat' split
  all_goals first | exact Or.inl rfl | exact Or.inr rfl | simp
set_option maxHeartbeats 4000000 in
set_option maxRecDepth 100000 in
theorem c_Rotors_anotherHas (l : Launch) (dC : Nat → ClassId) (dI : Nat → Nat → Nat) (Z : Nat → ClassId) (A : Nat → Nat) (sz : Nat) (M : XM) (a1 : Int32) (a2 : Int32) : Met l y_Rotors_anotherHas (.code y_Rotors_anotherHas bc_Rotors_anotherHas 4 (some .boolean) :: xw) ({ frames := 1, cells := 0, slots := 0, locals := 22 }) (va_Pc [.ref (A 1), .int a1, .int a2] (xB (dC, dI) xcl (xty Z) sz [(A 1, xc1 Z A M), (A 2, xc2 Z A M)])) (k2_QcV (.int (F_Rotors_anotherHas M a1 a2))) 0 0 (fun _ => False) := by
  refine Met.ofW (cc := bc_Rotors_anotherHas) (maxL := 4) (ret := (some .boolean)) (by decide) rfl ?_
  intro p e s m args below meth c s₁ B hml hv
  obtain ⟨rfl, hsz, hP, hK, hD0, hq⟩ := hv
  have hx := B.exec
  have hb := B.bytes
  have hr := B.returns
  have hts := atoms_spec (ws := (.code y_Rotors_anotherHas bc_Rotors_anotherHas 4 (some .boolean) :: xw)) B.pre
  have htt : ∀ w ∈ xw, w.before _ s = true := fun w h => hts w (List.mem_cons_of_mem _ h)
  have hown : s.vm.findClass "CentrifugeUnit$Rotors" = some m.cls := findClass_of_methodNamed B.named
  have hlocks := B.notSynchronized
  subst hsz
  have hD : va_D (fun _ => True) [(A 1, .inr (5, [.ref (A 2), .ref (A 3), .ref (A 4), .ref (A 5), .int (M.1 0)])), (A 2, .inl (Z 0, 4, .inl (M.2.2.1 2)))] := hD0
  have hP : va_P (dC, dI) xcl [(A 1, .inr (5, [.ref (A 2), .ref (A 3), .ref (A 4), .ref (A 5), .int (M.1 0)])), (A 2, .inl (Z 0, 4, .inl (M.2.2.1 2)))] s.heap := hP
  have hl := lv_entry ([.ref (A 1), .int a1, .int a2]) (n := 4) (Nat.le_of_ble_eq_true rfl)
  rw [lg_entry_eq]
  generalize (lg_sl ([.ref (A 1), .int a1, .int a2]) ++ List.replicate (4 - (lg_sl ([.ref (A 1), .int a1, .int a2])).length) Slot.unset).toArray = ls at hl ⊢
  have hl : lv_has ls 4 [(0, .ref (A 1)), (1, .int a1), (2, .int a2)] := hl
  refine lv_aload_n hx hb d_Rotors_anotherHas_0 rfl (lv_at hl 0 rfl) ?_
  refine lv_iload_n hx hb d_Rotors_anotherHas_1 rfl (lv_at hl 2 rfl) ?_
  have hPc := hP.sub (ws' := [(A 1, xc1 Z A M), (A 2, xc2 Z A M)]) [0, 1] rfl
  have hDc := hD.sub (ws' := [(A 1, xc1 Z A M), (A 2, xc2 Z A M)]) [0, 1] (by decide) rfl
  refine xk_p (va_runV (As := [.int a2]) (rest := []) ⟨hx, hb, hml, hown, hts⟩ (c_Rotors_withPattern l dC dI Z A _ M a2) (cwV 1 hts (xw_V _ tw_349 tw_350 tw_351 tw_2 tw_352) rfl rfl rfl (by decide +kernel) ⟨Nat.le_of_ble_eq_true rfl, Nat.le_of_ble_eq_true rfl⟩) ⟨xB_blind, va_recv (q0 := 0) (ci := 5) hK hP rfl rfl, fun U hU hW => ⟨rfl, xB_at hPc hK hDc hq U hU hW⟩⟩ rfl rfl hl.1 rfl (lv_room (Nat.le_of_ble_eq_true rfl)) d_Rotors_anotherHas_2 ⟨Nat.le_of_ble_eq_true rfl, Nat.le_of_ble_eq_true rfl⟩) ?_
  refine lv_topi (fun z1 hz1 => ?_)
  refine lv_istore_n (lv' := [(3, .int z1), (0, .ref (A 1)), (1, .int a1), (2, .int a2)]) hx hb d_Rotors_anotherHas_5 rfl hl (by decide) rfl (fun ls hl => ?_)
  refine lv_iload_n hx hb d_Rotors_anotherHas_6 rfl (lv_at hl 0 rfl) ?_
  refine lv_iconst (v := (-1)) hx hb d_Rotors_anotherHas_7 (by decide) ?_
  refine lv_icmp_eq (tgt := 20) hx hb d_Rotors_anotherHas_8 rfl (fun h2 => ?_) (fun h2 => ?_)
  · refine lv_iconst (v := 0) hx hb d_Rotors_anotherHas_20 (by decide) ?_
    exact W.zret (ty := .boolean) hx hb hr rfl (fun t ht hW => ⟨(by rw [F_Rotors_anotherHas, ← hz1, F_Rotors_anotherHas_k1, if_pos h2]), ht⟩) (fun _ h => absurd h List.not_mem_nil) d_Rotors_anotherHas_21
  · refine lv_iload_n hx hb d_Rotors_anotherHas_11 rfl (lv_at hl 0 rfl) ?_
    refine lv_iload_n hx hb d_Rotors_anotherHas_12 rfl (lv_at hl 2 rfl) ?_
    refine lv_icmp_eq (tgt := 20) hx hb d_Rotors_anotherHas_13 rfl (fun h3 => ?_) (fun h3 => ?_)
    · refine lv_iconst (v := 0) hx hb d_Rotors_anotherHas_20 (by decide) ?_
      exact W.zret (ty := .boolean) hx hb hr rfl (fun t ht hW => ⟨(by rw [F_Rotors_anotherHas, ← hz1, F_Rotors_anotherHas_k1, if_neg h2, if_pos h3]), ht⟩) (fun _ h => absurd h List.not_mem_nil) d_Rotors_anotherHas_21
    · refine lv_iconst (v := 1) hx hb d_Rotors_anotherHas_16 (by decide) ?_
      refine lv_goto (tgt := 21) hx hb d_Rotors_anotherHas_17 rfl ?_
      exact W.zret (ty := .boolean) hx hb hr rfl (fun t ht hW => ⟨(by rw [F_Rotors_anotherHas, ← hz1, F_Rotors_anotherHas_k1, if_neg h2, if_neg h3]), ht⟩) (fun _ h => absurd h List.not_mem_nil) d_Rotors_anotherHas_21
abbrev bc_Rotors_keep : ByteArray := prog_7_method_5_code
def y_Rotors_keep : MethodName := ⟨"CentrifugeUnit$Rotors", "keep", "(IIIII)V"⟩
theorem d_Rotors_keep_0 : decode bc_Rotors_keep 0 = .ok (.aload_n 0, 1) := by decide +kernel
theorem d_Rotors_keep_1 : decode bc_Rotors_keep 1 = .ok (.getfield 11, 3) := by decide +kernel
theorem d_Rotors_keep_4 : decode bc_Rotors_keep 4 = .ok (.iload_n 1, 1) := by decide +kernel
theorem d_Rotors_keep_5 : decode bc_Rotors_keep 5 = .ok (.iload_n 2, 1) := by decide +kernel
theorem d_Rotors_keep_6 : decode bc_Rotors_keep 6 = .ok (.iastore, 1) := by decide +kernel
theorem d_Rotors_keep_7 : decode bc_Rotors_keep 7 = .ok (.aload_n 0, 1) := by decide +kernel
theorem d_Rotors_keep_8 : decode bc_Rotors_keep 8 = .ok (.getfield 15, 3) := by decide +kernel
theorem d_Rotors_keep_11 : decode bc_Rotors_keep 11 = .ok (.iload_n 1, 1) := by decide +kernel
theorem d_Rotors_keep_12 : decode bc_Rotors_keep 12 = .ok (.iload_n 3, 1) := by decide +kernel
theorem d_Rotors_keep_13 : decode bc_Rotors_keep 13 = .ok (.iastore, 1) := by decide +kernel
theorem d_Rotors_keep_14 : decode bc_Rotors_keep 14 = .ok (.aload_n 0, 1) := by decide +kernel
theorem d_Rotors_keep_15 : decode bc_Rotors_keep 15 = .ok (.getfield 18, 3) := by decide +kernel
theorem d_Rotors_keep_18 : decode bc_Rotors_keep 18 = .ok (.iload_n 1, 1) := by decide +kernel
theorem d_Rotors_keep_19 : decode bc_Rotors_keep 19 = .ok (.iload 4, 2) := by decide +kernel
theorem d_Rotors_keep_21 : decode bc_Rotors_keep 21 = .ok (.iastore, 1) := by decide +kernel
theorem d_Rotors_keep_22 : decode bc_Rotors_keep 22 = .ok (.aload_n 0, 1) := by decide +kernel
theorem d_Rotors_keep_23 : decode bc_Rotors_keep 23 = .ok (.getfield 21, 3) := by decide +kernel
theorem d_Rotors_keep_26 : decode bc_Rotors_keep 26 = .ok (.iload_n 1, 1) := by decide +kernel
theorem d_Rotors_keep_27 : decode bc_Rotors_keep 27 = .ok (.iload 5, 2) := by decide +kernel
theorem d_Rotors_keep_29 : decode bc_Rotors_keep 29 = .ok (.iastore, 1) := by decide +kernel
theorem d_Rotors_keep_30 : decode bc_Rotors_keep 30 = .ok (.return_, 1) := by decide +kernel
abbrev ap_Rotors_keep (M : XM) (u : ((Nat → Int32) × (Nat → Int32) × (Nat → Int32) × (Nat → Int32))) : XM := (M.1, M.2.1, (va_up (va_up (va_up (va_up M.2.2.1 2 (u.1)) 3 (u.2.1)) 4 (u.2.2.1)) 5 (u.2.2.2)), M.2.2.2)
def F_Rotors_keep (M : XM) (a1 : Int32) (a2 : Int32) (a3 : Int32) (a4 : Int32) (a5 : Int32) : ((Nat → Int32) × (Nat → Int32) × (Nat → Int32) × (Nat → Int32)) := ((upd (M.2.2.1 2) (a1).toNatClampNeg a2), (upd (M.2.2.1 3) (a1).toNatClampNeg a3), (upd (M.2.2.1 4) (a1).toNatClampNeg a4), (upd (M.2.2.1 5) (a1).toNatClampNeg a5))
set_option maxHeartbeats 4000000 in
set_option maxRecDepth 100000 in
theorem c_Rotors_keep (l : Launch) (dC : Nat → ClassId) (dI : Nat → Nat → Nat) (Z : Nat → ClassId) (A : Nat → Nat) (sz : Nat) (M : XM) (a1 : Int32) (a2 : Int32) (a3 : Int32) (a4 : Int32) (a5 : Int32) (hk : vp_in a1 4) : Met l y_Rotors_keep (.code y_Rotors_keep bc_Rotors_keep 6 none :: xw) ({ frames := 0, cells := 0, slots := 0, locals := 0 }) (va_Pc [.ref (A 1), .int a1, .int a2, .int a3, .int a4, .int a5] (xB (dC, dI) xcl (xty Z) sz [(A 1, xc1 Z A M), (A 2, xc2 Z A M), (A 3, xc3 Z A M), (A 4, xc4 Z A M), (A 5, xc5 Z A M)])) (va_Qv (fun u : ((Nat → Int32) × (Nat → Int32) × (Nat → Int32) × (Nat → Int32)) => u = F_Rotors_keep M a1 a2 a3 a4 a5) (fun u => xE (dC, dI) xcl (xty Z) (va_A [(A 1, xc1 Z A M), (A 2, xc2 Z A M), (A 3, xc3 Z A M), (A 4, xc4 Z A M), (A 5, xc5 Z A M)] sz) [(A 1, xc1 Z A (ap_Rotors_keep M u)), (A 2, xc2 Z A (ap_Rotors_keep M u)), (A 3, xc3 Z A (ap_Rotors_keep M u)), (A 4, xc4 Z A (ap_Rotors_keep M u)), (A 5, xc5 Z A (ap_Rotors_keep M u))]) (va_A [(A 1, xc1 Z A M), (A 2, xc2 Z A M), (A 3, xc3 Z A M), (A 4, xc4 Z A M), (A 5, xc5 Z A M)] sz)) 0 0 (va_A [(A 1, xc1 Z A M), (A 2, xc2 Z A M), (A 3, xc3 Z A M), (A 4, xc4 Z A M), (A 5, xc5 Z A M)] sz) := by
  refine Met.ofW (cc := bc_Rotors_keep) (maxL := 6) (ret := none) (by decide) rfl ?_
  intro p e s m args below meth c s₁ B hml hv
  obtain ⟨rfl, hsz, hP, hK, hD0, hq⟩ := hv
  have hx := B.exec
  have hb := B.bytes
  have hr := B.returns
  have hts := atoms_spec (ws := (.code y_Rotors_keep bc_Rotors_keep 6 none :: xw)) B.pre
  have htt : ∀ w ∈ xw, w.before _ s = true := fun w h => hts w (List.mem_cons_of_mem _ h)
  have hown : s.vm.findClass "CentrifugeUnit$Rotors" = some m.cls := findClass_of_methodNamed B.named
  have hlocks := B.notSynchronized
  subst hsz
  have hD := hD0.self (sz := s.heap.size)
  generalize hAe : va_A [(A 1, xc1 Z A M), (A 2, xc2 Z A M), (A 3, xc3 Z A M), (A 4, xc4 Z A M), (A 5, xc5 Z A M)] s.heap.size = AA at hD ⊢
  have hA : ∀ q : Nat, s.heap.size ≤ q → AA q := fun q h => by rw [← hAe]; exact Or.inr h
  have hS : va_S AA s.heap s.heap [] := va_S.rf
  have hP : va_P (dC, dI) xcl [(A 1, .inr (5, [.ref (A 2), .ref (A 3), .ref (A 4), .ref (A 5), .int (M.1 0)])), (A 2, .inl (Z 0, 4, .inl (M.2.2.1 2))), (A 3, .inl (Z 0, 4, .inl (M.2.2.1 3))), (A 4, .inl (Z 0, 4, .inl (M.2.2.1 4))), (A 5, .inl (Z 0, 4, .inl (M.2.2.1 5)))] s.heap := hP
  have hD : va_D AA [(A 1, .inr (5, [.ref (A 2), .ref (A 3), .ref (A 4), .ref (A 5), .int (M.1 0)])), (A 2, .inl (Z 0, 4, .inl (M.2.2.1 2))), (A 3, .inl (Z 0, 4, .inl (M.2.2.1 3))), (A 4, .inl (Z 0, 4, .inl (M.2.2.1 4))), (A 5, .inl (Z 0, 4, .inl (M.2.2.1 5)))] := hD
  have hl := lv_entry ([.ref (A 1), .int a1, .int a2, .int a3, .int a4, .int a5]) (n := 6) (Nat.le_of_ble_eq_true rfl)
  rw [lg_entry_eq]
  generalize (lg_sl ([.ref (A 1), .int a1, .int a2, .int a3, .int a4, .int a5]) ++ List.replicate (6 - (lg_sl ([.ref (A 1), .int a1, .int a2, .int a3, .int a4, .int a5])).length) Slot.unset).toArray = ls at hl ⊢
  have hl : lv_has ls 6 [(0, .ref (A 1)), (1, .int a1), (2, .int a2), (3, .int a3), (4, .int a4), (5, .int a5)] := hl
  refine lv_aload_n hx hb d_Rotors_keep_0 rfl (lv_at hl 0 rfl) ?_
  refine va_get (D := (dC, dI)) (ci := 5) (v := .ref (A 2)) (C := "CentrifugeUnit$Rotors") (T := xF5) (N := 5) hx hb htt xin5 hown hK hP 0 rfl rfl 0 (by decide) (htt _ tw_37) (fun _ h9 => h9) rfl d_Rotors_keep_1 ?_
  refine lv_iload_n hx hb d_Rotors_keep_4 rfl (lv_at hl 1 rfl) ?_
  refine lv_iload_n hx hb d_Rotors_keep_5 rfl (lv_at hl 2 rfl) ?_
  refine va_iast (D := (dC, dI)) hx hb hK hP hD hS 1 0 rfl rfl hk d_Rotors_keep_6 (fun H locs hP hD hS => ?_)
  have hP : va_P (dC, dI) xcl [(A 1, .inr (5, [.ref (A 2), .ref (A 3), .ref (A 4), .ref (A 5), .int (M.1 0)])), (A 2, .inl (Z 0, 4, .inl (upd (M.2.2.1 2) (a1).toNatClampNeg a2))), (A 3, .inl (Z 0, 4, .inl (M.2.2.1 3))), (A 4, .inl (Z 0, 4, .inl (M.2.2.1 4))), (A 5, .inl (Z 0, 4, .inl (M.2.2.1 5)))] H := hP
  have hD : va_D AA [(A 1, .inr (5, [.ref (A 2), .ref (A 3), .ref (A 4), .ref (A 5), .int (M.1 0)])), (A 2, .inl (Z 0, 4, .inl (upd (M.2.2.1 2) (a1).toNatClampNeg a2))), (A 3, .inl (Z 0, 4, .inl (M.2.2.1 3))), (A 4, .inl (Z 0, 4, .inl (M.2.2.1 4))), (A 5, .inl (Z 0, 4, .inl (M.2.2.1 5)))] := hD
  refine lv_aload_n hx hb d_Rotors_keep_7 rfl (lv_at hl 0 rfl) ?_
  refine va_get (D := (dC, dI)) (ci := 5) (v := .ref (A 3)) (C := "CentrifugeUnit$Rotors") (T := xF5) (N := 5) hx hb htt xin5 hown hK hP 0 rfl rfl 1 (by decide) (htt _ tw_38) (fun _ h9 => h9) rfl d_Rotors_keep_8 ?_
  refine lv_iload_n hx hb d_Rotors_keep_11 rfl (lv_at hl 1 rfl) ?_
  refine lv_iload_n hx hb d_Rotors_keep_12 rfl (lv_at hl 3 rfl) ?_
  refine va_iast (D := (dC, dI)) hx hb hK hP hD hS 2 0 rfl rfl hk d_Rotors_keep_13 (fun H locs hP hD hS => ?_)
  have hP : va_P (dC, dI) xcl [(A 1, .inr (5, [.ref (A 2), .ref (A 3), .ref (A 4), .ref (A 5), .int (M.1 0)])), (A 2, .inl (Z 0, 4, .inl (upd (M.2.2.1 2) (a1).toNatClampNeg a2))), (A 3, .inl (Z 0, 4, .inl (upd (M.2.2.1 3) (a1).toNatClampNeg a3))), (A 4, .inl (Z 0, 4, .inl (M.2.2.1 4))), (A 5, .inl (Z 0, 4, .inl (M.2.2.1 5)))] H := hP
  have hD : va_D AA [(A 1, .inr (5, [.ref (A 2), .ref (A 3), .ref (A 4), .ref (A 5), .int (M.1 0)])), (A 2, .inl (Z 0, 4, .inl (upd (M.2.2.1 2) (a1).toNatClampNeg a2))), (A 3, .inl (Z 0, 4, .inl (upd (M.2.2.1 3) (a1).toNatClampNeg a3))), (A 4, .inl (Z 0, 4, .inl (M.2.2.1 4))), (A 5, .inl (Z 0, 4, .inl (M.2.2.1 5)))] := hD
  refine lv_aload_n hx hb d_Rotors_keep_14 rfl (lv_at hl 0 rfl) ?_
  refine va_get (D := (dC, dI)) (ci := 5) (v := .ref (A 4)) (C := "CentrifugeUnit$Rotors") (T := xF5) (N := 5) hx hb htt xin5 hown hK hP 0 rfl rfl 2 (by decide) (htt _ tw_39) (fun _ h9 => h9) rfl d_Rotors_keep_15 ?_
  refine lv_iload_n hx hb d_Rotors_keep_18 rfl (lv_at hl 1 rfl) ?_
  refine lv_iload hx hb d_Rotors_keep_19 (lv_at hl 4 rfl) ?_
  refine va_iast (D := (dC, dI)) hx hb hK hP hD hS 3 0 rfl rfl hk d_Rotors_keep_21 (fun H locs hP hD hS => ?_)
  have hP : va_P (dC, dI) xcl [(A 1, .inr (5, [.ref (A 2), .ref (A 3), .ref (A 4), .ref (A 5), .int (M.1 0)])), (A 2, .inl (Z 0, 4, .inl (upd (M.2.2.1 2) (a1).toNatClampNeg a2))), (A 3, .inl (Z 0, 4, .inl (upd (M.2.2.1 3) (a1).toNatClampNeg a3))), (A 4, .inl (Z 0, 4, .inl (upd (M.2.2.1 4) (a1).toNatClampNeg a4))), (A 5, .inl (Z 0, 4, .inl (M.2.2.1 5)))] H := hP
  have hD : va_D AA [(A 1, .inr (5, [.ref (A 2), .ref (A 3), .ref (A 4), .ref (A 5), .int (M.1 0)])), (A 2, .inl (Z 0, 4, .inl (upd (M.2.2.1 2) (a1).toNatClampNeg a2))), (A 3, .inl (Z 0, 4, .inl (upd (M.2.2.1 3) (a1).toNatClampNeg a3))), (A 4, .inl (Z 0, 4, .inl (upd (M.2.2.1 4) (a1).toNatClampNeg a4))), (A 5, .inl (Z 0, 4, .inl (M.2.2.1 5)))] := hD
  refine lv_aload_n hx hb d_Rotors_keep_22 rfl (lv_at hl 0 rfl) ?_
  refine va_get (D := (dC, dI)) (ci := 5) (v := .ref (A 5)) (C := "CentrifugeUnit$Rotors") (T := xF5) (N := 5) hx hb htt xin5 hown hK hP 0 rfl rfl 3 (by decide) (htt _ tw_40) (fun _ h9 => h9) rfl d_Rotors_keep_23 ?_
  refine lv_iload_n hx hb d_Rotors_keep_26 rfl (lv_at hl 1 rfl) ?_
  refine lv_iload hx hb d_Rotors_keep_27 (lv_at hl 5 rfl) ?_
  refine va_iast (D := (dC, dI)) hx hb hK hP hD hS 4 0 rfl rfl hk d_Rotors_keep_29 (fun H locs hP hD hS => ?_)
  have hP : va_P (dC, dI) xcl [(A 1, .inr (5, [.ref (A 2), .ref (A 3), .ref (A 4), .ref (A 5), .int (M.1 0)])), (A 2, .inl (Z 0, 4, .inl (upd (M.2.2.1 2) (a1).toNatClampNeg a2))), (A 3, .inl (Z 0, 4, .inl (upd (M.2.2.1 3) (a1).toNatClampNeg a3))), (A 4, .inl (Z 0, 4, .inl (upd (M.2.2.1 4) (a1).toNatClampNeg a4))), (A 5, .inl (Z 0, 4, .inl (upd (M.2.2.1 5) (a1).toNatClampNeg a5)))] H := hP
  have hD : va_D AA [(A 1, .inr (5, [.ref (A 2), .ref (A 3), .ref (A 4), .ref (A 5), .int (M.1 0)])), (A 2, .inl (Z 0, 4, .inl (upd (M.2.2.1 2) (a1).toNatClampNeg a2))), (A 3, .inl (Z 0, 4, .inl (upd (M.2.2.1 3) (a1).toNatClampNeg a3))), (A 4, .inl (Z 0, 4, .inl (upd (M.2.2.1 4) (a1).toNatClampNeg a4))), (A 5, .inl (Z 0, 4, .inl (upd (M.2.2.1 5) (a1).toNatClampNeg a5)))] := hD
  have hP9 := hP.sub (ws' := [(A 1, xc1 Z A (ap_Rotors_keep M ((upd (M.2.2.1 2) (a1).toNatClampNeg a2), (upd (M.2.2.1 3) (a1).toNatClampNeg a3), (upd (M.2.2.1 4) (a1).toNatClampNeg a4), (upd (M.2.2.1 5) (a1).toNatClampNeg a5)))), (A 2, xc2 Z A (ap_Rotors_keep M ((upd (M.2.2.1 2) (a1).toNatClampNeg a2), (upd (M.2.2.1 3) (a1).toNatClampNeg a3), (upd (M.2.2.1 4) (a1).toNatClampNeg a4), (upd (M.2.2.1 5) (a1).toNatClampNeg a5)))), (A 3, xc3 Z A (ap_Rotors_keep M ((upd (M.2.2.1 2) (a1).toNatClampNeg a2), (upd (M.2.2.1 3) (a1).toNatClampNeg a3), (upd (M.2.2.1 4) (a1).toNatClampNeg a4), (upd (M.2.2.1 5) (a1).toNatClampNeg a5)))), (A 4, xc4 Z A (ap_Rotors_keep M ((upd (M.2.2.1 2) (a1).toNatClampNeg a2), (upd (M.2.2.1 3) (a1).toNatClampNeg a3), (upd (M.2.2.1 4) (a1).toNatClampNeg a4), (upd (M.2.2.1 5) (a1).toNatClampNeg a5)))), (A 5, xc5 Z A (ap_Rotors_keep M ((upd (M.2.2.1 2) (a1).toNatClampNeg a2), (upd (M.2.2.1 3) (a1).toNatClampNeg a3), (upd (M.2.2.1 4) (a1).toNatClampNeg a4), (upd (M.2.2.1 5) (a1).toNatClampNeg a5))))]) [0, 1, 2, 3, 4] rfl
  have hD9 := hD.sub (ws' := [(A 1, xc1 Z A (ap_Rotors_keep M ((upd (M.2.2.1 2) (a1).toNatClampNeg a2), (upd (M.2.2.1 3) (a1).toNatClampNeg a3), (upd (M.2.2.1 4) (a1).toNatClampNeg a4), (upd (M.2.2.1 5) (a1).toNatClampNeg a5)))), (A 2, xc2 Z A (ap_Rotors_keep M ((upd (M.2.2.1 2) (a1).toNatClampNeg a2), (upd (M.2.2.1 3) (a1).toNatClampNeg a3), (upd (M.2.2.1 4) (a1).toNatClampNeg a4), (upd (M.2.2.1 5) (a1).toNatClampNeg a5)))), (A 3, xc3 Z A (ap_Rotors_keep M ((upd (M.2.2.1 2) (a1).toNatClampNeg a2), (upd (M.2.2.1 3) (a1).toNatClampNeg a3), (upd (M.2.2.1 4) (a1).toNatClampNeg a4), (upd (M.2.2.1 5) (a1).toNatClampNeg a5)))), (A 4, xc4 Z A (ap_Rotors_keep M ((upd (M.2.2.1 2) (a1).toNatClampNeg a2), (upd (M.2.2.1 3) (a1).toNatClampNeg a3), (upd (M.2.2.1 4) (a1).toNatClampNeg a4), (upd (M.2.2.1 5) (a1).toNatClampNeg a5)))), (A 5, xc5 Z A (ap_Rotors_keep M ((upd (M.2.2.1 2) (a1).toNatClampNeg a2), (upd (M.2.2.1 3) (a1).toNatClampNeg a3), (upd (M.2.2.1 4) (a1).toNatClampNeg a4), (upd (M.2.2.1 5) (a1).toNatClampNeg a5))))]) [0, 1, 2, 3, 4] (by decide) rfl
  exact W.vret hx hb hr (fun t ht hW => ⟨⟨((upd (M.2.2.1 2) (a1).toNatClampNeg a2), (upd (M.2.2.1 3) (a1).toNatClampNeg a3), (upd (M.2.2.1 4) (a1).toNatClampNeg a4), (upd (M.2.2.1 5) (a1).toNatClampNeg a5)), rfl, (by rw [F_Rotors_keep]), xE_at hP9 hK hD9 ht hW⟩, hS.F ht⟩) hS.2.2 d_Rotors_keep_30
abbrev bc_Rotors_patternIn : ByteArray := prog_7_method_7_code
def y_Rotors_patternIn : MethodName := ⟨"CentrifugeUnit$Rotors", "patternIn", "()I"⟩
theorem d_Rotors_patternIn_0 : decode bc_Rotors_patternIn 0 = .ok (.aload_n 0, 1) := by decide +kernel
theorem d_Rotors_patternIn_1 : decode bc_Rotors_patternIn 1 = .ok (.getfield 24, 3) := by decide +kernel
theorem d_Rotors_patternIn_4 : decode bc_Rotors_patternIn 4 = .ok (.invokestatic 38, 3) := by decide +kernel
theorem d_Rotors_patternIn_7 : decode bc_Rotors_patternIn 7 = .ok (.ifCond .eq 15, 3) := by decide +kernel
theorem d_Rotors_patternIn_10 : decode bc_Rotors_patternIn 10 = .ok (.aload_n 0, 1) := by decide +kernel
theorem d_Rotors_patternIn_11 : decode bc_Rotors_patternIn 11 = .ok (.getfield 11, 3) := by decide +kernel
theorem d_Rotors_patternIn_14 : decode bc_Rotors_patternIn 14 = .ok (.aload_n 0, 1) := by decide +kernel
theorem d_Rotors_patternIn_15 : decode bc_Rotors_patternIn 15 = .ok (.getfield 24, 3) := by decide +kernel
theorem d_Rotors_patternIn_18 : decode bc_Rotors_patternIn 18 = .ok (.iaload, 1) := by decide +kernel
theorem d_Rotors_patternIn_19 : decode bc_Rotors_patternIn 19 = .ok (.goto 4, 3) := by decide +kernel
theorem d_Rotors_patternIn_22 : decode bc_Rotors_patternIn 22 = .ok (.iconst (-1), 1) := by decide +kernel
theorem d_Rotors_patternIn_23 : decode bc_Rotors_patternIn 23 = .ok (.ireturn, 1) := by decide +kernel
def F_Rotors_patternIn_k1 (M : XM) (z1 : Int32) : Int32 := (if z1 = 0 then (-1) else ((M.2.2.1 2) ((M.1 0)).toNatClampNeg))
def F_Rotors_patternIn (M : XM) : Int32 := (F_Rotors_patternIn_k1 M (F_Rotors_exists M (M.1 0)))
set_option maxHeartbeats 4000000 in
set_option maxRecDepth 100000 in
theorem c_Rotors_patternIn (l : Launch) (dC : Nat → ClassId) (dI : Nat → Nat → Nat) (Z : Nat → ClassId) (A : Nat → Nat) (sz : Nat) (M : XM) : Met l y_Rotors_patternIn (.code y_Rotors_patternIn bc_Rotors_patternIn 1 (some .int) :: xw) ({ frames := 2, cells := 0, slots := 0, locals := 42 }) (va_Pc [.ref (A 1)] (xB (dC, dI) xcl (xty Z) sz [(A 1, xc1 Z A M), (A 2, xc2 Z A M)])) (k2_QcV (.int (F_Rotors_patternIn M))) 0 0 (fun _ => False) := by
  refine Met.ofW (cc := bc_Rotors_patternIn) (maxL := 1) (ret := (some .int)) (by decide) rfl ?_
  intro p e s m args below meth c s₁ B hml hv
  obtain ⟨rfl, hsz, hP, hK, hD0, hq⟩ := hv
  have hx := B.exec
  have hb := B.bytes
  have hr := B.returns
  have hts := atoms_spec (ws := (.code y_Rotors_patternIn bc_Rotors_patternIn 1 (some .int) :: xw)) B.pre
  have htt : ∀ w ∈ xw, w.before _ s = true := fun w h => hts w (List.mem_cons_of_mem _ h)
  have hown : s.vm.findClass "CentrifugeUnit$Rotors" = some m.cls := findClass_of_methodNamed B.named
  have hlocks := B.notSynchronized
  subst hsz
  have hD : va_D (fun _ => True) [(A 1, .inr (5, [.ref (A 2), .ref (A 3), .ref (A 4), .ref (A 5), .int (M.1 0)])), (A 2, .inl (Z 0, 4, .inl (M.2.2.1 2)))] := hD0
  have hP : va_P (dC, dI) xcl [(A 1, .inr (5, [.ref (A 2), .ref (A 3), .ref (A 4), .ref (A 5), .int (M.1 0)])), (A 2, .inl (Z 0, 4, .inl (M.2.2.1 2)))] s.heap := hP
  have hl := lv_entry ([.ref (A 1)]) (n := 1) (Nat.le_of_ble_eq_true rfl)
  rw [lg_entry_eq]
  generalize (lg_sl ([.ref (A 1)]) ++ List.replicate (1 - (lg_sl ([.ref (A 1)])).length) Slot.unset).toArray = ls at hl ⊢
  have hl : lv_has ls 1 [(0, .ref (A 1))] := hl
  refine lv_aload_n hx hb d_Rotors_patternIn_0 rfl (lv_at hl 0 rfl) ?_
  refine va_get (D := (dC, dI)) (ci := 5) (v := .int (M.1 0)) (C := "CentrifugeUnit$Rotors") (T := xF5) (N := 5) hx hb htt xin5 hown hK hP 0 rfl rfl 4 (by decide) (htt _ tw_41) (fun _ h9 => h9) rfl d_Rotors_patternIn_1 ?_
  have hPc := hP.sub (ws' := []) [] rfl
  have hDc := hD.sub (ws' := []) [] (by decide) rfl
  refine xk_p (va_runS (As := [.int (M.1 0)]) (rest := []) ⟨hx, hb, hml, hown, hts⟩ (c_Rotors_exists l dC dI Z A _ M (M.1 0)) (va_cwS 1 hts (xw_S _ tw_322 tw_323 tw_2 tw_324) rfl rfl rfl (by decide +kernel) ⟨Nat.le_of_ble_eq_true rfl, Nat.le_of_ble_eq_true rfl⟩) ⟨xB_blind, fun U hU hW => ⟨rfl, xB_at hPc hK hDc hq U hU hW⟩⟩ rfl rfl hl.1 rfl (lv_room (Nat.le_of_ble_eq_true rfl)) d_Rotors_patternIn_4 ⟨Nat.le_of_ble_eq_true rfl, Nat.le_of_ble_eq_true rfl⟩) ?_
  refine lv_topi (fun z1 hz1 => ?_)
  refine lv_if_eq (tgt := 22) hx hb d_Rotors_patternIn_7 rfl (fun h2 => ?_) (fun h2 => ?_)
  · refine lv_iconst (v := (-1)) hx hb d_Rotors_patternIn_22 (by decide) ?_
    exact W.iret hx hb hr (fun t ht hW => ⟨(by rw [F_Rotors_patternIn, ← hz1, F_Rotors_patternIn_k1, if_pos h2]), ht⟩) (fun _ h => absurd h List.not_mem_nil) d_Rotors_patternIn_23
  · refine lv_aload_n hx hb d_Rotors_patternIn_10 rfl (lv_at hl 0 rfl) ?_
    refine va_get (D := (dC, dI)) (ci := 5) (v := .ref (A 2)) (C := "CentrifugeUnit$Rotors") (T := xF5) (N := 5) hx hb htt xin5 hown hK hP 0 rfl rfl 0 (by decide) (htt _ tw_37) (fun _ h9 => h9) rfl d_Rotors_patternIn_11 ?_
    refine lv_aload_n hx hb d_Rotors_patternIn_14 rfl (lv_at hl 0 rfl) ?_
    refine va_get (D := (dC, dI)) (ci := 5) (v := .int (M.1 0)) (C := "CentrifugeUnit$Rotors") (T := xF5) (N := 5) hx hb htt xin5 hown hK hP 0 rfl rfl 4 (by decide) (htt _ tw_41) (fun _ h9 => h9) rfl d_Rotors_patternIn_15 ?_
    refine va_iald (D := (dC, dI)) hx hb hK hP 1 0 rfl rfl (xex h2 hz1) d_Rotors_patternIn_18 ?_
    refine lv_goto (tgt := 23) hx hb d_Rotors_patternIn_19 rfl ?_
    exact W.iret hx hb hr (fun t ht hW => ⟨(by rw [F_Rotors_patternIn, ← hz1, F_Rotors_patternIn_k1, if_neg h2]), ht⟩) (fun _ h => absurd h List.not_mem_nil) d_Rotors_patternIn_23
abbrev bc_Rotors_inertiaIn : ByteArray := prog_7_method_8_code
def y_Rotors_inertiaIn : MethodName := ⟨"CentrifugeUnit$Rotors", "inertiaIn", "()I"⟩
theorem d_Rotors_inertiaIn_0 : decode bc_Rotors_inertiaIn 0 = .ok (.aload_n 0, 1) := by decide +kernel
theorem d_Rotors_inertiaIn_1 : decode bc_Rotors_inertiaIn 1 = .ok (.getfield 24, 3) := by decide +kernel
theorem d_Rotors_inertiaIn_4 : decode bc_Rotors_inertiaIn 4 = .ok (.invokestatic 38, 3) := by decide +kernel
theorem d_Rotors_inertiaIn_7 : decode bc_Rotors_inertiaIn 7 = .ok (.ifCond .eq 15, 3) := by decide +kernel
theorem d_Rotors_inertiaIn_10 : decode bc_Rotors_inertiaIn 10 = .ok (.aload_n 0, 1) := by decide +kernel
theorem d_Rotors_inertiaIn_11 : decode bc_Rotors_inertiaIn 11 = .ok (.getfield 21, 3) := by decide +kernel
theorem d_Rotors_inertiaIn_14 : decode bc_Rotors_inertiaIn 14 = .ok (.aload_n 0, 1) := by decide +kernel
theorem d_Rotors_inertiaIn_15 : decode bc_Rotors_inertiaIn 15 = .ok (.getfield 24, 3) := by decide +kernel
theorem d_Rotors_inertiaIn_18 : decode bc_Rotors_inertiaIn 18 = .ok (.iaload, 1) := by decide +kernel
theorem d_Rotors_inertiaIn_19 : decode bc_Rotors_inertiaIn 19 = .ok (.goto 5, 3) := by decide +kernel
theorem d_Rotors_inertiaIn_22 : decode bc_Rotors_inertiaIn 22 = .ok (.bipush 100, 2) := by decide +kernel
theorem d_Rotors_inertiaIn_24 : decode bc_Rotors_inertiaIn 24 = .ok (.ireturn, 1) := by decide +kernel
def F_Rotors_inertiaIn_k1 (M : XM) (z1 : Int32) : Int32 := (if z1 = 0 then 100 else ((M.2.2.1 5) ((M.1 0)).toNatClampNeg))
def F_Rotors_inertiaIn (M : XM) : Int32 := (F_Rotors_inertiaIn_k1 M (F_Rotors_exists M (M.1 0)))
set_option maxHeartbeats 4000000 in
set_option maxRecDepth 100000 in
theorem c_Rotors_inertiaIn (l : Launch) (dC : Nat → ClassId) (dI : Nat → Nat → Nat) (Z : Nat → ClassId) (A : Nat → Nat) (sz : Nat) (M : XM) : Met l y_Rotors_inertiaIn (.code y_Rotors_inertiaIn bc_Rotors_inertiaIn 1 (some .int) :: xw) ({ frames := 2, cells := 0, slots := 0, locals := 42 }) (va_Pc [.ref (A 1)] (xB (dC, dI) xcl (xty Z) sz [(A 1, xc1 Z A M), (A 5, xc5 Z A M)])) (k2_QcV (.int (F_Rotors_inertiaIn M))) 0 0 (fun _ => False) := by
  refine Met.ofW (cc := bc_Rotors_inertiaIn) (maxL := 1) (ret := (some .int)) (by decide) rfl ?_
  intro p e s m args below meth c s₁ B hml hv
  obtain ⟨rfl, hsz, hP, hK, hD0, hq⟩ := hv
  have hx := B.exec
  have hb := B.bytes
  have hr := B.returns
  have hts := atoms_spec (ws := (.code y_Rotors_inertiaIn bc_Rotors_inertiaIn 1 (some .int) :: xw)) B.pre
  have htt : ∀ w ∈ xw, w.before _ s = true := fun w h => hts w (List.mem_cons_of_mem _ h)
  have hown : s.vm.findClass "CentrifugeUnit$Rotors" = some m.cls := findClass_of_methodNamed B.named
  have hlocks := B.notSynchronized
  subst hsz
  have hD : va_D (fun _ => True) [(A 1, .inr (5, [.ref (A 2), .ref (A 3), .ref (A 4), .ref (A 5), .int (M.1 0)])), (A 5, .inl (Z 0, 4, .inl (M.2.2.1 5)))] := hD0
  have hP : va_P (dC, dI) xcl [(A 1, .inr (5, [.ref (A 2), .ref (A 3), .ref (A 4), .ref (A 5), .int (M.1 0)])), (A 5, .inl (Z 0, 4, .inl (M.2.2.1 5)))] s.heap := hP
  have hl := lv_entry ([.ref (A 1)]) (n := 1) (Nat.le_of_ble_eq_true rfl)
  rw [lg_entry_eq]
  generalize (lg_sl ([.ref (A 1)]) ++ List.replicate (1 - (lg_sl ([.ref (A 1)])).length) Slot.unset).toArray = ls at hl ⊢
  have hl : lv_has ls 1 [(0, .ref (A 1))] := hl
  refine lv_aload_n hx hb d_Rotors_inertiaIn_0 rfl (lv_at hl 0 rfl) ?_
  refine va_get (D := (dC, dI)) (ci := 5) (v := .int (M.1 0)) (C := "CentrifugeUnit$Rotors") (T := xF5) (N := 5) hx hb htt xin5 hown hK hP 0 rfl rfl 4 (by decide) (htt _ tw_41) (fun _ h9 => h9) rfl d_Rotors_inertiaIn_1 ?_
  have hPc := hP.sub (ws' := []) [] rfl
  have hDc := hD.sub (ws' := []) [] (by decide) rfl
  refine xk_p (va_runS (As := [.int (M.1 0)]) (rest := []) ⟨hx, hb, hml, hown, hts⟩ (c_Rotors_exists l dC dI Z A _ M (M.1 0)) (va_cwS 1 hts (xw_S _ tw_322 tw_323 tw_2 tw_324) rfl rfl rfl (by decide +kernel) ⟨Nat.le_of_ble_eq_true rfl, Nat.le_of_ble_eq_true rfl⟩) ⟨xB_blind, fun U hU hW => ⟨rfl, xB_at hPc hK hDc hq U hU hW⟩⟩ rfl rfl hl.1 rfl (lv_room (Nat.le_of_ble_eq_true rfl)) d_Rotors_inertiaIn_4 ⟨Nat.le_of_ble_eq_true rfl, Nat.le_of_ble_eq_true rfl⟩) ?_
  refine lv_topi (fun z1 hz1 => ?_)
  refine lv_if_eq (tgt := 22) hx hb d_Rotors_inertiaIn_7 rfl (fun h2 => ?_) (fun h2 => ?_)
  · refine lv_bipush (v := 100) hx hb d_Rotors_inertiaIn_22 (by decide) ?_
    exact W.iret hx hb hr (fun t ht hW => ⟨(by rw [F_Rotors_inertiaIn, ← hz1, F_Rotors_inertiaIn_k1, if_pos h2]), ht⟩) (fun _ h => absurd h List.not_mem_nil) d_Rotors_inertiaIn_24
  · refine lv_aload_n hx hb d_Rotors_inertiaIn_10 rfl (lv_at hl 0 rfl) ?_
    refine va_get (D := (dC, dI)) (ci := 5) (v := .ref (A 5)) (C := "CentrifugeUnit$Rotors") (T := xF5) (N := 5) hx hb htt xin5 hown hK hP 0 rfl rfl 3 (by decide) (htt _ tw_40) (fun _ h9 => h9) rfl d_Rotors_inertiaIn_11 ?_
    refine lv_aload_n hx hb d_Rotors_inertiaIn_14 rfl (lv_at hl 0 rfl) ?_
    refine va_get (D := (dC, dI)) (ci := 5) (v := .int (M.1 0)) (C := "CentrifugeUnit$Rotors") (T := xF5) (N := 5) hx hb htt xin5 hown hK hP 0 rfl rfl 4 (by decide) (htt _ tw_41) (fun _ h9 => h9) rfl d_Rotors_inertiaIn_15 ?_
    refine va_iald (D := (dC, dI)) hx hb hK hP 1 0 rfl rfl (xex h2 hz1) d_Rotors_inertiaIn_18 ?_
    refine lv_goto (tgt := 24) hx hb d_Rotors_inertiaIn_19 rfl ?_
    exact W.iret hx hb hr (fun t ht hW => ⟨(by rw [F_Rotors_inertiaIn, ← hz1, F_Rotors_inertiaIn_k1, if_neg h2]), ht⟩) (fun _ h => absurd h List.not_mem_nil) d_Rotors_inertiaIn_24
abbrev bc_Rotors_radiusOf : ByteArray := prog_7_method_9_code
def y_Rotors_radiusOf : MethodName := ⟨"CentrifugeUnit$Rotors", "radiusOf", "(I)I"⟩
theorem d_Rotors_radiusOf_0 : decode bc_Rotors_radiusOf 0 = .ok (.iload_n 1, 1) := by decide +kernel
theorem d_Rotors_radiusOf_1 : decode bc_Rotors_radiusOf 1 = .ok (.invokestatic 38, 3) := by decide +kernel
theorem d_Rotors_radiusOf_4 : decode bc_Rotors_radiusOf 4 = .ok (.ifCond .eq 12, 3) := by decide +kernel
theorem d_Rotors_radiusOf_7 : decode bc_Rotors_radiusOf 7 = .ok (.aload_n 0, 1) := by decide +kernel
theorem d_Rotors_radiusOf_8 : decode bc_Rotors_radiusOf 8 = .ok (.getfield 15, 3) := by decide +kernel
theorem d_Rotors_radiusOf_11 : decode bc_Rotors_radiusOf 11 = .ok (.iload_n 1, 1) := by decide +kernel
theorem d_Rotors_radiusOf_12 : decode bc_Rotors_radiusOf 12 = .ok (.iaload, 1) := by decide +kernel
theorem d_Rotors_radiusOf_13 : decode bc_Rotors_radiusOf 13 = .ok (.goto 4, 3) := by decide +kernel
theorem d_Rotors_radiusOf_16 : decode bc_Rotors_radiusOf 16 = .ok (.iconst 0, 1) := by decide +kernel
theorem d_Rotors_radiusOf_17 : decode bc_Rotors_radiusOf 17 = .ok (.ireturn, 1) := by decide +kernel
def F_Rotors_radiusOf_k1 (M : XM) (a1 : Int32) (z1 : Int32) : Int32 := (if z1 = 0 then 0 else ((M.2.2.1 3) (a1).toNatClampNeg))
def F_Rotors_radiusOf (M : XM) (a1 : Int32) : Int32 := (F_Rotors_radiusOf_k1 M a1 (F_Rotors_exists M a1))
set_option maxHeartbeats 4000000 in
set_option maxRecDepth 100000 in
theorem c_Rotors_radiusOf (l : Launch) (dC : Nat → ClassId) (dI : Nat → Nat → Nat) (Z : Nat → ClassId) (A : Nat → Nat) (sz : Nat) (M : XM) (a1 : Int32) : Met l y_Rotors_radiusOf (.code y_Rotors_radiusOf bc_Rotors_radiusOf 2 (some .int) :: xw) ({ frames := 2, cells := 0, slots := 0, locals := 42 }) (va_Pc [.ref (A 1), .int a1] (xB (dC, dI) xcl (xty Z) sz [(A 1, xc1 Z A M), (A 3, xc3 Z A M)])) (k2_QcV (.int (F_Rotors_radiusOf M a1))) 0 0 (fun _ => False) := by
  refine Met.ofW (cc := bc_Rotors_radiusOf) (maxL := 2) (ret := (some .int)) (by decide) rfl ?_
  intro p e s m args below meth c s₁ B hml hv
  obtain ⟨rfl, hsz, hP, hK, hD0, hq⟩ := hv
  have hx := B.exec
  have hb := B.bytes
  have hr := B.returns
  have hts := atoms_spec (ws := (.code y_Rotors_radiusOf bc_Rotors_radiusOf 2 (some .int) :: xw)) B.pre
  have htt : ∀ w ∈ xw, w.before _ s = true := fun w h => hts w (List.mem_cons_of_mem _ h)
  have hown : s.vm.findClass "CentrifugeUnit$Rotors" = some m.cls := findClass_of_methodNamed B.named
  have hlocks := B.notSynchronized
  subst hsz
  have hD : va_D (fun _ => True) [(A 1, .inr (5, [.ref (A 2), .ref (A 3), .ref (A 4), .ref (A 5), .int (M.1 0)])), (A 3, .inl (Z 0, 4, .inl (M.2.2.1 3)))] := hD0
  have hP : va_P (dC, dI) xcl [(A 1, .inr (5, [.ref (A 2), .ref (A 3), .ref (A 4), .ref (A 5), .int (M.1 0)])), (A 3, .inl (Z 0, 4, .inl (M.2.2.1 3)))] s.heap := hP
  have hl := lv_entry ([.ref (A 1), .int a1]) (n := 2) (Nat.le_of_ble_eq_true rfl)
  rw [lg_entry_eq]
  generalize (lg_sl ([.ref (A 1), .int a1]) ++ List.replicate (2 - (lg_sl ([.ref (A 1), .int a1])).length) Slot.unset).toArray = ls at hl ⊢
  have hl : lv_has ls 2 [(0, .ref (A 1)), (1, .int a1)] := hl
  refine lv_iload_n hx hb d_Rotors_radiusOf_0 rfl (lv_at hl 1 rfl) ?_
  have hPc := hP.sub (ws' := []) [] rfl
  have hDc := hD.sub (ws' := []) [] (by decide) rfl
  refine xk_p (va_runS (As := [.int a1]) (rest := []) ⟨hx, hb, hml, hown, hts⟩ (c_Rotors_exists l dC dI Z A _ M a1) (va_cwS 1 hts (xw_S _ tw_322 tw_323 tw_2 tw_324) rfl rfl rfl (by decide +kernel) ⟨Nat.le_of_ble_eq_true rfl, Nat.le_of_ble_eq_true rfl⟩) ⟨xB_blind, fun U hU hW => ⟨rfl, xB_at hPc hK hDc hq U hU hW⟩⟩ rfl rfl hl.1 rfl (lv_room (Nat.le_of_ble_eq_true rfl)) d_Rotors_radiusOf_1 ⟨Nat.le_of_ble_eq_true rfl, Nat.le_of_ble_eq_true rfl⟩) ?_
  refine lv_topi (fun z1 hz1 => ?_)
  refine lv_if_eq (tgt := 16) hx hb d_Rotors_radiusOf_4 rfl (fun h2 => ?_) (fun h2 => ?_)
  · refine lv_iconst (v := 0) hx hb d_Rotors_radiusOf_16 (by decide) ?_
    exact W.iret hx hb hr (fun t ht hW => ⟨(by rw [F_Rotors_radiusOf, ← hz1, F_Rotors_radiusOf_k1, if_pos h2]), ht⟩) (fun _ h => absurd h List.not_mem_nil) d_Rotors_radiusOf_17
  · refine lv_aload_n hx hb d_Rotors_radiusOf_7 rfl (lv_at hl 0 rfl) ?_
    refine va_get (D := (dC, dI)) (ci := 5) (v := .ref (A 3)) (C := "CentrifugeUnit$Rotors") (T := xF5) (N := 5) hx hb htt xin5 hown hK hP 0 rfl rfl 1 (by decide) (htt _ tw_38) (fun _ h9 => h9) rfl d_Rotors_radiusOf_8 ?_
    refine lv_iload_n hx hb d_Rotors_radiusOf_11 rfl (lv_at hl 1 rfl) ?_
    refine va_iald (D := (dC, dI)) hx hb hK hP 1 0 rfl rfl (xex h2 hz1) d_Rotors_radiusOf_12 ?_
    refine lv_goto (tgt := 17) hx hb d_Rotors_radiusOf_13 rfl ?_
    exact W.iret hx hb hr (fun t ht hW => ⟨(by rw [F_Rotors_radiusOf, ← hz1, F_Rotors_radiusOf_k1, if_neg h2]), ht⟩) (fun _ h => absurd h List.not_mem_nil) d_Rotors_radiusOf_17
abbrev bc_Rotors_limitOf : ByteArray := prog_7_method_10_code
def y_Rotors_limitOf : MethodName := ⟨"CentrifugeUnit$Rotors", "limitOf", "(I)I"⟩
theorem d_Rotors_limitOf_0 : decode bc_Rotors_limitOf 0 = .ok (.iload_n 1, 1) := by decide +kernel
theorem d_Rotors_limitOf_1 : decode bc_Rotors_limitOf 1 = .ok (.invokestatic 38, 3) := by decide +kernel
theorem d_Rotors_limitOf_4 : decode bc_Rotors_limitOf 4 = .ok (.ifCond .eq 12, 3) := by decide +kernel
theorem d_Rotors_limitOf_7 : decode bc_Rotors_limitOf 7 = .ok (.aload_n 0, 1) := by decide +kernel
theorem d_Rotors_limitOf_8 : decode bc_Rotors_limitOf 8 = .ok (.getfield 18, 3) := by decide +kernel
theorem d_Rotors_limitOf_11 : decode bc_Rotors_limitOf 11 = .ok (.iload_n 1, 1) := by decide +kernel
theorem d_Rotors_limitOf_12 : decode bc_Rotors_limitOf 12 = .ok (.iaload, 1) := by decide +kernel
theorem d_Rotors_limitOf_13 : decode bc_Rotors_limitOf 13 = .ok (.goto 6, 3) := by decide +kernel
theorem d_Rotors_limitOf_16 : decode bc_Rotors_limitOf 16 = .ok (.sipush 3000, 3) := by decide +kernel
theorem d_Rotors_limitOf_19 : decode bc_Rotors_limitOf 19 = .ok (.ireturn, 1) := by decide +kernel
def F_Rotors_limitOf_k1 (M : XM) (a1 : Int32) (z1 : Int32) : Int32 := (if z1 = 0 then 3000 else ((M.2.2.1 4) (a1).toNatClampNeg))
def F_Rotors_limitOf (M : XM) (a1 : Int32) : Int32 := (F_Rotors_limitOf_k1 M a1 (F_Rotors_exists M a1))
set_option maxHeartbeats 4000000 in
set_option maxRecDepth 100000 in
theorem c_Rotors_limitOf (l : Launch) (dC : Nat → ClassId) (dI : Nat → Nat → Nat) (Z : Nat → ClassId) (A : Nat → Nat) (sz : Nat) (M : XM) (a1 : Int32) : Met l y_Rotors_limitOf (.code y_Rotors_limitOf bc_Rotors_limitOf 2 (some .int) :: xw) ({ frames := 2, cells := 0, slots := 0, locals := 42 }) (va_Pc [.ref (A 1), .int a1] (xB (dC, dI) xcl (xty Z) sz [(A 1, xc1 Z A M), (A 4, xc4 Z A M)])) (k2_QcV (.int (F_Rotors_limitOf M a1))) 0 0 (fun _ => False) := by
  refine Met.ofW (cc := bc_Rotors_limitOf) (maxL := 2) (ret := (some .int)) (by decide) rfl ?_
  intro p e s m args below meth c s₁ B hml hv
  obtain ⟨rfl, hsz, hP, hK, hD0, hq⟩ := hv
  have hx := B.exec
  have hb := B.bytes
  have hr := B.returns
  have hts := atoms_spec (ws := (.code y_Rotors_limitOf bc_Rotors_limitOf 2 (some .int) :: xw)) B.pre
  have htt : ∀ w ∈ xw, w.before _ s = true := fun w h => hts w (List.mem_cons_of_mem _ h)
  have hown : s.vm.findClass "CentrifugeUnit$Rotors" = some m.cls := findClass_of_methodNamed B.named
  have hlocks := B.notSynchronized
  subst hsz
  have hD : va_D (fun _ => True) [(A 1, .inr (5, [.ref (A 2), .ref (A 3), .ref (A 4), .ref (A 5), .int (M.1 0)])), (A 4, .inl (Z 0, 4, .inl (M.2.2.1 4)))] := hD0
  have hP : va_P (dC, dI) xcl [(A 1, .inr (5, [.ref (A 2), .ref (A 3), .ref (A 4), .ref (A 5), .int (M.1 0)])), (A 4, .inl (Z 0, 4, .inl (M.2.2.1 4)))] s.heap := hP
  have hl := lv_entry ([.ref (A 1), .int a1]) (n := 2) (Nat.le_of_ble_eq_true rfl)
  rw [lg_entry_eq]
  generalize (lg_sl ([.ref (A 1), .int a1]) ++ List.replicate (2 - (lg_sl ([.ref (A 1), .int a1])).length) Slot.unset).toArray = ls at hl ⊢
  have hl : lv_has ls 2 [(0, .ref (A 1)), (1, .int a1)] := hl
  refine lv_iload_n hx hb d_Rotors_limitOf_0 rfl (lv_at hl 1 rfl) ?_
  have hPc := hP.sub (ws' := []) [] rfl
  have hDc := hD.sub (ws' := []) [] (by decide) rfl
  refine xk_p (va_runS (As := [.int a1]) (rest := []) ⟨hx, hb, hml, hown, hts⟩ (c_Rotors_exists l dC dI Z A _ M a1) (va_cwS 1 hts (xw_S _ tw_322 tw_323 tw_2 tw_324) rfl rfl rfl (by decide +kernel) ⟨Nat.le_of_ble_eq_true rfl, Nat.le_of_ble_eq_true rfl⟩) ⟨xB_blind, fun U hU hW => ⟨rfl, xB_at hPc hK hDc hq U hU hW⟩⟩ rfl rfl hl.1 rfl (lv_room (Nat.le_of_ble_eq_true rfl)) d_Rotors_limitOf_1 ⟨Nat.le_of_ble_eq_true rfl, Nat.le_of_ble_eq_true rfl⟩) ?_
  refine lv_topi (fun z1 hz1 => ?_)
  refine lv_if_eq (tgt := 16) hx hb d_Rotors_limitOf_4 rfl (fun h2 => ?_) (fun h2 => ?_)
  · refine lv_sipush (v := 3000) hx hb d_Rotors_limitOf_16 (by decide) ?_
    exact W.iret hx hb hr (fun t ht hW => ⟨(by rw [F_Rotors_limitOf, ← hz1, F_Rotors_limitOf_k1, if_pos h2]), ht⟩) (fun _ h => absurd h List.not_mem_nil) d_Rotors_limitOf_19
  · refine lv_aload_n hx hb d_Rotors_limitOf_7 rfl (lv_at hl 0 rfl) ?_
    refine va_get (D := (dC, dI)) (ci := 5) (v := .ref (A 4)) (C := "CentrifugeUnit$Rotors") (T := xF5) (N := 5) hx hb htt xin5 hown hK hP 0 rfl rfl 2 (by decide) (htt _ tw_39) (fun _ h9 => h9) rfl d_Rotors_limitOf_8 ?_
    refine lv_iload_n hx hb d_Rotors_limitOf_11 rfl (lv_at hl 1 rfl) ?_
    refine va_iald (D := (dC, dI)) hx hb hK hP 1 0 rfl rfl (xex h2 hz1) d_Rotors_limitOf_12 ?_
    refine lv_goto (tgt := 19) hx hb d_Rotors_limitOf_13 rfl ?_
    exact W.iret hx hb hr (fun t ht hW => ⟨(by rw [F_Rotors_limitOf, ← hz1, F_Rotors_limitOf_k1, if_neg h2]), ht⟩) (fun _ h => absurd h List.not_mem_nil) d_Rotors_limitOf_19
abbrev bc_Program_allowed : ByteArray := prog_5_method_2_code
def y_Program_allowed : MethodName := ⟨"CentrifugeUnit$Program", "allowed", "(III)Z"⟩
theorem d_Program_allowed_0 : decode bc_Program_allowed 0 = .ok (.iload_n 0, 1) := by decide +kernel
theorem d_Program_allowed_1 : decode bc_Program_allowed 1 = .ok (.tableswitch 117 0 4 #[35, 63, 71, 79, 106], 35) := by decide +kernel
theorem d_Program_allowed_36 : decode bc_Program_allowed 36 = .ok (.iload_n 1, 1) := by decide +kernel
theorem d_Program_allowed_37 : decode bc_Program_allowed 37 = .ok (.iconst 0, 1) := by decide +kernel
theorem d_Program_allowed_38 : decode bc_Program_allowed 38 = .ok (.sipush 20000, 3) := by decide +kernel
theorem d_Program_allowed_41 : decode bc_Program_allowed 41 = .ok (.invokestatic 19, 3) := by decide +kernel
theorem d_Program_allowed_44 : decode bc_Program_allowed 44 = .ok (.ifCond .eq 18, 3) := by decide +kernel
theorem d_Program_allowed_47 : decode bc_Program_allowed 47 = .ok (.iload_n 2, 1) := by decide +kernel
theorem d_Program_allowed_48 : decode bc_Program_allowed 48 = .ok (.iconst 1, 1) := by decide +kernel
theorem d_Program_allowed_49 : decode bc_Program_allowed 49 = .ok (.sipush 500, 3) := by decide +kernel
theorem d_Program_allowed_52 : decode bc_Program_allowed 52 = .ok (.invokestatic 19, 3) := by decide +kernel
theorem d_Program_allowed_55 : decode bc_Program_allowed 55 = .ok (.ifCond .eq 7, 3) := by decide +kernel
theorem d_Program_allowed_58 : decode bc_Program_allowed 58 = .ok (.iconst 1, 1) := by decide +kernel
theorem d_Program_allowed_59 : decode bc_Program_allowed 59 = .ok (.goto 4, 3) := by decide +kernel
theorem d_Program_allowed_62 : decode bc_Program_allowed 62 = .ok (.iconst 0, 1) := by decide +kernel
theorem d_Program_allowed_63 : decode bc_Program_allowed 63 = .ok (.ireturn, 1) := by decide +kernel
theorem d_Program_allowed_64 : decode bc_Program_allowed 64 = .ok (.iload_n 1, 1) := by decide +kernel
theorem d_Program_allowed_65 : decode bc_Program_allowed 65 = .ok (.iconst 1, 1) := by decide +kernel
theorem d_Program_allowed_66 : decode bc_Program_allowed 66 = .ok (.ldc 25, 2) := by decide +kernel
theorem d_Program_allowed_68 : decode bc_Program_allowed 68 = .ok (.invokestatic 19, 3) := by decide +kernel
theorem d_Program_allowed_71 : decode bc_Program_allowed 71 = .ok (.ireturn, 1) := by decide +kernel
theorem d_Program_allowed_72 : decode bc_Program_allowed 72 = .ok (.iload_n 1, 1) := by decide +kernel
theorem d_Program_allowed_73 : decode bc_Program_allowed 73 = .ok (.iconst 1, 1) := by decide +kernel
theorem d_Program_allowed_74 : decode bc_Program_allowed 74 = .ok (.ldc 26, 2) := by decide +kernel
theorem d_Program_allowed_76 : decode bc_Program_allowed 76 = .ok (.invokestatic 19, 3) := by decide +kernel
theorem d_Program_allowed_79 : decode bc_Program_allowed 79 = .ok (.ireturn, 1) := by decide +kernel
theorem d_Program_allowed_80 : decode bc_Program_allowed 80 = .ok (.iload_n 1, 1) := by decide +kernel
theorem d_Program_allowed_81 : decode bc_Program_allowed 81 = .ok (.iconst 0, 1) := by decide +kernel
theorem d_Program_allowed_82 : decode bc_Program_allowed 82 = .ok (.sipush 20000, 3) := by decide +kernel
theorem d_Program_allowed_85 : decode bc_Program_allowed 85 = .ok (.invokestatic 19, 3) := by decide +kernel
theorem d_Program_allowed_88 : decode bc_Program_allowed 88 = .ok (.ifCond .eq 17, 3) := by decide +kernel
theorem d_Program_allowed_91 : decode bc_Program_allowed 91 = .ok (.iload_n 2, 1) := by decide +kernel
theorem d_Program_allowed_92 : decode bc_Program_allowed 92 = .ok (.iconst 1, 1) := by decide +kernel
theorem d_Program_allowed_93 : decode bc_Program_allowed 93 = .ok (.bipush 9, 2) := by decide +kernel
theorem d_Program_allowed_95 : decode bc_Program_allowed 95 = .ok (.invokestatic 19, 3) := by decide +kernel
theorem d_Program_allowed_98 : decode bc_Program_allowed 98 = .ok (.ifCond .eq 7, 3) := by decide +kernel
theorem d_Program_allowed_101 : decode bc_Program_allowed 101 = .ok (.iconst 1, 1) := by decide +kernel
theorem d_Program_allowed_102 : decode bc_Program_allowed 102 = .ok (.goto 4, 3) := by decide +kernel
theorem d_Program_allowed_105 : decode bc_Program_allowed 105 = .ok (.iconst 0, 1) := by decide +kernel
theorem d_Program_allowed_106 : decode bc_Program_allowed 106 = .ok (.ireturn, 1) := by decide +kernel
theorem d_Program_allowed_107 : decode bc_Program_allowed 107 = .ok (.iload_n 1, 1) := by decide +kernel
theorem d_Program_allowed_108 : decode bc_Program_allowed 108 = .ok (.sipush (-2000), 3) := by decide +kernel
theorem d_Program_allowed_111 : decode bc_Program_allowed 111 = .ok (.sipush 4000, 3) := by decide +kernel
theorem d_Program_allowed_114 : decode bc_Program_allowed 114 = .ok (.invokestatic 19, 3) := by decide +kernel
theorem d_Program_allowed_117 : decode bc_Program_allowed 117 = .ok (.ireturn, 1) := by decide +kernel
theorem d_Program_allowed_118 : decode bc_Program_allowed 118 = .ok (.iconst 0, 1) := by decide +kernel
theorem d_Program_allowed_119 : decode bc_Program_allowed 119 = .ok (.ireturn, 1) := by decide +kernel
def F_Program_allowed_k2 (M : XM) (a1 : Int32) (a2 : Int32) (a3 : Int32) (z2 : Int32) (z4 : Int32) : Int32 := (if z4 = 0 then 0 else 1)
def F_Program_allowed_k1 (M : XM) (a1 : Int32) (a2 : Int32) (a3 : Int32) (z2 : Int32) : Int32 := (if z2 = 0 then 0 else (F_Program_allowed_k2 M a1 a2 a3 z2 (F_U_within M a3 1 500)))
def F_Program_allowed_k3 (M : XM) (a1 : Int32) (a2 : Int32) (a3 : Int32) (z7 : Int32) : Int32 := z7
def F_Program_allowed_k4 (M : XM) (a1 : Int32) (a2 : Int32) (a3 : Int32) (z9 : Int32) : Int32 := z9
def F_Program_allowed_k6 (M : XM) (a1 : Int32) (a2 : Int32) (a3 : Int32) (z11 : Int32) (z13 : Int32) : Int32 := (if z13 = 0 then 0 else 1)
def F_Program_allowed_k5 (M : XM) (a1 : Int32) (a2 : Int32) (a3 : Int32) (z11 : Int32) : Int32 := (if z11 = 0 then 0 else (F_Program_allowed_k6 M a1 a2 a3 z11 (F_U_within M a3 1 9)))
def F_Program_allowed_k7 (M : XM) (a1 : Int32) (a2 : Int32) (a3 : Int32) (z16 : Int32) : Int32 := z16
def F_Program_allowed (M : XM) (a1 : Int32) (a2 : Int32) (a3 : Int32) : Int32 := (if a1 = 0 then (F_Program_allowed_k1 M a1 a2 a3 (F_U_within M a2 0 20000)) else (if a1 = 1 then (F_Program_allowed_k3 M a1 a2 a3 (F_U_within M a2 1 100000)) else (if a1 = 2 then (F_Program_allowed_k4 M a1 a2 a3 (F_U_within M a2 1 1000000)) else (if a1 = 3 then (F_Program_allowed_k5 M a1 a2 a3 (F_U_within M a2 0 20000)) else (if a1 = 4 then (F_Program_allowed_k7 M a1 a2 a3 (F_U_within M a2 (-2000) 4000)) else 0)))))
theorem f01_Program_allowed (M : XM) (a1 : Int32) (a2 : Int32) (a3 : Int32) : F_Program_allowed M a1 a2 a3 = 0 ∨ F_Program_allowed M a1 a2 a3 = 1 := by
  simp only [F_Program_allowed_k2, F_Program_allowed_k1, F_Program_allowed_k3, F_Program_allowed_k4, F_Program_allowed_k6, F_Program_allowed_k5, F_Program_allowed_k7, F_Program_allowed]; repeat' split
  all_goals first | exact Or.inl rfl | exact Or.inr rfl | exact f01_U_within _ _ _ _ | simp
set_option maxHeartbeats 4000000 in
set_option maxRecDepth 100000 in
theorem c_Program_allowed (l : Launch) (dC : Nat → ClassId) (dI : Nat → Nat → Nat) (Z : Nat → ClassId) (A : Nat → Nat) (sz : Nat) (M : XM) (a1 : Int32) (a2 : Int32) (a3 : Int32) : Met l y_Program_allowed (.code y_Program_allowed bc_Program_allowed 3 (some .boolean) :: xw) ({ frames := 1, cells := 0, slots := 0, locals := 22 }) (va_Pc [.int a1, .int a2, .int a3] (xB (dC, dI) xcl (xty Z) sz [])) (k2_QcV (.int (F_Program_allowed M a1 a2 a3))) 0 0 (fun _ => False) := by
  refine Met.ofW (cc := bc_Program_allowed) (maxL := 3) (ret := (some .boolean)) (by decide) rfl ?_
  intro p e s m args below meth c s₁ B hml hv
  obtain ⟨rfl, hsz, hP, hK, hD0, hq⟩ := hv
  have hx := B.exec
  have hb := B.bytes
  have hr := B.returns
  have hts := atoms_spec (ws := (.code y_Program_allowed bc_Program_allowed 3 (some .boolean) :: xw)) B.pre
  have htt : ∀ w ∈ xw, w.before _ s = true := fun w h => hts w (List.mem_cons_of_mem _ h)
  have hown : s.vm.findClass "CentrifugeUnit$Program" = some m.cls := findClass_of_methodNamed B.named
  have hlocks := B.notSynchronized
  subst hsz
  have hD : va_D (fun _ => True) [] := hD0
  have hP : va_P (dC, dI) xcl [] s.heap := hP
  have hl := lv_entry ([.int a1, .int a2, .int a3]) (n := 3) (Nat.le_of_ble_eq_true rfl)
  rw [lg_entry_eq]
  generalize (lg_sl ([.int a1, .int a2, .int a3]) ++ List.replicate (3 - (lg_sl ([.int a1, .int a2, .int a3])).length) Slot.unset).toArray = ls at hl ⊢
  have hl : lv_has ls 3 [(0, .int a1), (1, .int a2), (2, .int a3)] := hl
  refine lv_iload_n hx hb d_Program_allowed_0 rfl (lv_at hl 0 rfl) ?_
  by_cases h1 : a1 = 0
  · refine lv_tableIn (off := 35) (tgt := 36) hx hb d_Program_allowed_1 (by rw [h1]; decide) (by rw [h1]; decide) (by rw [h1]; decide) rfl ?_
    refine lv_iload_n hx hb d_Program_allowed_36 rfl (lv_at hl 1 rfl) ?_
    refine lv_iconst (v := 0) hx hb d_Program_allowed_37 (by decide) ?_
    refine lv_sipush (v := 20000) hx hb d_Program_allowed_38 (by decide) ?_
    have hPc := hP.sub (ws' := []) [] rfl
    have hDc := hD.sub (ws' := []) [] (by decide) rfl
    refine xk_p (va_runSN (As := [.int a2, .int 0, .int 20000]) (rest := []) ⟨hx, hb, hml, hown, hts⟩ (c_U_within l dC dI Z A _ M a2 0 20000) ⟨va_cnB 3 hts (xw_call _ tw_327) rfl rfl rfl (hq.1 ("CentrifugeUnit$Program", 19, y_U_within, "CentrifugeUnit") (by decide +kernel)) (htt _ tw_1) (by decide +kernel) ⟨Nat.le_of_ble_eq_true rfl, Nat.le_of_ble_eq_true rfl⟩, htt _ tw_326, trivial⟩ ⟨xB_blind, fun U hU hW => ⟨rfl, xB_at hPc hK hDc hq U hU hW⟩⟩ rfl rfl hl.1 rfl (lv_room (Nat.le_of_ble_eq_true rfl)) d_Program_allowed_41 ⟨Nat.le_of_ble_eq_true rfl, Nat.le_of_ble_eq_true rfl⟩) ?_
    refine lv_topi (fun z2 hz2 => ?_)
    refine lv_if_eq (tgt := 62) hx hb d_Program_allowed_44 rfl (fun h3 => ?_) (fun h3 => ?_)
    · refine lv_iconst (v := 0) hx hb d_Program_allowed_62 (by decide) ?_
      exact W.zret (ty := .boolean) hx hb hr rfl (fun t ht hW => ⟨(by rw [F_Program_allowed, if_pos h1, ← hz2, F_Program_allowed_k1, if_pos h3]), ht⟩) (fun _ h => absurd h List.not_mem_nil) d_Program_allowed_63
    · refine lv_iload_n hx hb d_Program_allowed_47 rfl (lv_at hl 2 rfl) ?_
      refine lv_iconst (v := 1) hx hb d_Program_allowed_48 (by decide) ?_
      refine lv_sipush (v := 500) hx hb d_Program_allowed_49 (by decide) ?_
      have hPc := hP.sub (ws' := []) [] rfl
      have hDc := hD.sub (ws' := []) [] (by decide) rfl
      refine xk_p (va_runSN (As := [.int a3, .int 1, .int 500]) (rest := []) ⟨hx, hb, hml, hown, hts⟩ (c_U_within l dC dI Z A _ M a3 1 500) ⟨va_cnB 3 hts (xw_call _ tw_327) rfl rfl rfl (hq.1 ("CentrifugeUnit$Program", 19, y_U_within, "CentrifugeUnit") (by decide +kernel)) (htt _ tw_1) (by decide +kernel) ⟨Nat.le_of_ble_eq_true rfl, Nat.le_of_ble_eq_true rfl⟩, htt _ tw_326, trivial⟩ ⟨xB_blind, fun U hU hW => ⟨rfl, xB_at hPc hK hDc hq U hU hW⟩⟩ rfl rfl hl.1 rfl (lv_room (Nat.le_of_ble_eq_true rfl)) d_Program_allowed_52 ⟨Nat.le_of_ble_eq_true rfl, Nat.le_of_ble_eq_true rfl⟩) ?_
      refine lv_topi (fun z4 hz4 => ?_)
      refine lv_if_eq (tgt := 62) hx hb d_Program_allowed_55 rfl (fun h5 => ?_) (fun h5 => ?_)
      · refine lv_iconst (v := 0) hx hb d_Program_allowed_62 (by decide) ?_
        exact W.zret (ty := .boolean) hx hb hr rfl (fun t ht hW => ⟨(by rw [F_Program_allowed, if_pos h1, ← hz2, F_Program_allowed_k1, if_neg h3, ← hz4, F_Program_allowed_k2, if_pos h5]), ht⟩) (fun _ h => absurd h List.not_mem_nil) d_Program_allowed_63
      · refine lv_iconst (v := 1) hx hb d_Program_allowed_58 (by decide) ?_
        refine lv_goto (tgt := 63) hx hb d_Program_allowed_59 rfl ?_
        exact W.zret (ty := .boolean) hx hb hr rfl (fun t ht hW => ⟨(by rw [F_Program_allowed, if_pos h1, ← hz2, F_Program_allowed_k1, if_neg h3, ← hz4, F_Program_allowed_k2, if_neg h5]), ht⟩) (fun _ h => absurd h List.not_mem_nil) d_Program_allowed_63
  by_cases h6 : a1 = 1
  · refine lv_tableIn (off := 63) (tgt := 64) hx hb d_Program_allowed_1 (by rw [h6]; decide) (by rw [h6]; decide) (by rw [h6]; decide) rfl ?_
    refine lv_iload_n hx hb d_Program_allowed_64 rfl (lv_at hl 1 rfl) ?_
    refine lv_iconst (v := 1) hx hb d_Program_allowed_65 (by decide) ?_
    refine lv_ldc (v := 100000) hx hb hown (htt _ tw_465) d_Program_allowed_66 ?_
    have hPc := hP.sub (ws' := []) [] rfl
    have hDc := hD.sub (ws' := []) [] (by decide) rfl
    refine xk_p (va_runSN (As := [.int a2, .int 1, .int 100000]) (rest := []) ⟨hx, hb, hml, hown, hts⟩ (c_U_within l dC dI Z A _ M a2 1 100000) ⟨va_cnB 3 hts (xw_call _ tw_327) rfl rfl rfl (hq.1 ("CentrifugeUnit$Program", 19, y_U_within, "CentrifugeUnit") (by decide +kernel)) (htt _ tw_1) (by decide +kernel) ⟨Nat.le_of_ble_eq_true rfl, Nat.le_of_ble_eq_true rfl⟩, htt _ tw_326, trivial⟩ ⟨xB_blind, fun U hU hW => ⟨rfl, xB_at hPc hK hDc hq U hU hW⟩⟩ rfl rfl hl.1 rfl (lv_room (Nat.le_of_ble_eq_true rfl)) d_Program_allowed_68 ⟨Nat.le_of_ble_eq_true rfl, Nat.le_of_ble_eq_true rfl⟩) ?_
    refine lv_topi (fun z7 hz7 => ?_)
    exact W.zret (ty := .boolean) hx hb hr (xz_nar (by rw [hz7]; exact f01_U_within M a2 1 100000)) (fun t ht hW => ⟨(by rw [F_Program_allowed, if_neg h1, if_pos h6, ← hz7, F_Program_allowed_k3]), ht⟩) (fun _ h => absurd h List.not_mem_nil) d_Program_allowed_71
  by_cases h8 : a1 = 2
  · refine lv_tableIn (off := 71) (tgt := 72) hx hb d_Program_allowed_1 (by rw [h8]; decide) (by rw [h8]; decide) (by rw [h8]; decide) rfl ?_
    refine lv_iload_n hx hb d_Program_allowed_72 rfl (lv_at hl 1 rfl) ?_
    refine lv_iconst (v := 1) hx hb d_Program_allowed_73 (by decide) ?_
    refine lv_ldc (v := 1000000) hx hb hown (htt _ tw_466) d_Program_allowed_74 ?_
    have hPc := hP.sub (ws' := []) [] rfl
    have hDc := hD.sub (ws' := []) [] (by decide) rfl
    refine xk_p (va_runSN (As := [.int a2, .int 1, .int 1000000]) (rest := []) ⟨hx, hb, hml, hown, hts⟩ (c_U_within l dC dI Z A _ M a2 1 1000000) ⟨va_cnB 3 hts (xw_call _ tw_327) rfl rfl rfl (hq.1 ("CentrifugeUnit$Program", 19, y_U_within, "CentrifugeUnit") (by decide +kernel)) (htt _ tw_1) (by decide +kernel) ⟨Nat.le_of_ble_eq_true rfl, Nat.le_of_ble_eq_true rfl⟩, htt _ tw_326, trivial⟩ ⟨xB_blind, fun U hU hW => ⟨rfl, xB_at hPc hK hDc hq U hU hW⟩⟩ rfl rfl hl.1 rfl (lv_room (Nat.le_of_ble_eq_true rfl)) d_Program_allowed_76 ⟨Nat.le_of_ble_eq_true rfl, Nat.le_of_ble_eq_true rfl⟩) ?_
    refine lv_topi (fun z9 hz9 => ?_)
    exact W.zret (ty := .boolean) hx hb hr (xz_nar (by rw [hz9]; exact f01_U_within M a2 1 1000000)) (fun t ht hW => ⟨(by rw [F_Program_allowed, if_neg h1, if_neg h6, if_pos h8, ← hz9, F_Program_allowed_k4]), ht⟩) (fun _ h => absurd h List.not_mem_nil) d_Program_allowed_79
  by_cases h10 : a1 = 3
  · refine lv_tableIn (off := 79) (tgt := 80) hx hb d_Program_allowed_1 (by rw [h10]; decide) (by rw [h10]; decide) (by rw [h10]; decide) rfl ?_
    refine lv_iload_n hx hb d_Program_allowed_80 rfl (lv_at hl 1 rfl) ?_
    refine lv_iconst (v := 0) hx hb d_Program_allowed_81 (by decide) ?_
    refine lv_sipush (v := 20000) hx hb d_Program_allowed_82 (by decide) ?_
    have hPc := hP.sub (ws' := []) [] rfl
    have hDc := hD.sub (ws' := []) [] (by decide) rfl
    refine xk_p (va_runSN (As := [.int a2, .int 0, .int 20000]) (rest := []) ⟨hx, hb, hml, hown, hts⟩ (c_U_within l dC dI Z A _ M a2 0 20000) ⟨va_cnB 3 hts (xw_call _ tw_327) rfl rfl rfl (hq.1 ("CentrifugeUnit$Program", 19, y_U_within, "CentrifugeUnit") (by decide +kernel)) (htt _ tw_1) (by decide +kernel) ⟨Nat.le_of_ble_eq_true rfl, Nat.le_of_ble_eq_true rfl⟩, htt _ tw_326, trivial⟩ ⟨xB_blind, fun U hU hW => ⟨rfl, xB_at hPc hK hDc hq U hU hW⟩⟩ rfl rfl hl.1 rfl (lv_room (Nat.le_of_ble_eq_true rfl)) d_Program_allowed_85 ⟨Nat.le_of_ble_eq_true rfl, Nat.le_of_ble_eq_true rfl⟩) ?_
    refine lv_topi (fun z11 hz11 => ?_)
    refine lv_if_eq (tgt := 105) hx hb d_Program_allowed_88 rfl (fun h12 => ?_) (fun h12 => ?_)
    · refine lv_iconst (v := 0) hx hb d_Program_allowed_105 (by decide) ?_
      exact W.zret (ty := .boolean) hx hb hr rfl (fun t ht hW => ⟨(by rw [F_Program_allowed, if_neg h1, if_neg h6, if_neg h8, if_pos h10, ← hz11, F_Program_allowed_k5, if_pos h12]), ht⟩) (fun _ h => absurd h List.not_mem_nil) d_Program_allowed_106
    · refine lv_iload_n hx hb d_Program_allowed_91 rfl (lv_at hl 2 rfl) ?_
      refine lv_iconst (v := 1) hx hb d_Program_allowed_92 (by decide) ?_
      refine lv_bipush (v := 9) hx hb d_Program_allowed_93 (by decide) ?_
      have hPc := hP.sub (ws' := []) [] rfl
      have hDc := hD.sub (ws' := []) [] (by decide) rfl
      refine xk_p (va_runSN (As := [.int a3, .int 1, .int 9]) (rest := []) ⟨hx, hb, hml, hown, hts⟩ (c_U_within l dC dI Z A _ M a3 1 9) ⟨va_cnB 3 hts (xw_call _ tw_327) rfl rfl rfl (hq.1 ("CentrifugeUnit$Program", 19, y_U_within, "CentrifugeUnit") (by decide +kernel)) (htt _ tw_1) (by decide +kernel) ⟨Nat.le_of_ble_eq_true rfl, Nat.le_of_ble_eq_true rfl⟩, htt _ tw_326, trivial⟩ ⟨xB_blind, fun U hU hW => ⟨rfl, xB_at hPc hK hDc hq U hU hW⟩⟩ rfl rfl hl.1 rfl (lv_room (Nat.le_of_ble_eq_true rfl)) d_Program_allowed_95 ⟨Nat.le_of_ble_eq_true rfl, Nat.le_of_ble_eq_true rfl⟩) ?_
      refine lv_topi (fun z13 hz13 => ?_)
      refine lv_if_eq (tgt := 105) hx hb d_Program_allowed_98 rfl (fun h14 => ?_) (fun h14 => ?_)
      · refine lv_iconst (v := 0) hx hb d_Program_allowed_105 (by decide) ?_
        exact W.zret (ty := .boolean) hx hb hr rfl (fun t ht hW => ⟨(by rw [F_Program_allowed, if_neg h1, if_neg h6, if_neg h8, if_pos h10, ← hz11, F_Program_allowed_k5, if_neg h12, ← hz13, F_Program_allowed_k6, if_pos h14]), ht⟩) (fun _ h => absurd h List.not_mem_nil) d_Program_allowed_106
      · refine lv_iconst (v := 1) hx hb d_Program_allowed_101 (by decide) ?_
        refine lv_goto (tgt := 106) hx hb d_Program_allowed_102 rfl ?_
        exact W.zret (ty := .boolean) hx hb hr rfl (fun t ht hW => ⟨(by rw [F_Program_allowed, if_neg h1, if_neg h6, if_neg h8, if_pos h10, ← hz11, F_Program_allowed_k5, if_neg h12, ← hz13, F_Program_allowed_k6, if_neg h14]), ht⟩) (fun _ h => absurd h List.not_mem_nil) d_Program_allowed_106
  by_cases h15 : a1 = 4
  · refine lv_tableIn (off := 106) (tgt := 107) hx hb d_Program_allowed_1 (by rw [h15]; decide) (by rw [h15]; decide) (by rw [h15]; decide) rfl ?_
    refine lv_iload_n hx hb d_Program_allowed_107 rfl (lv_at hl 1 rfl) ?_
    refine lv_sipush (v := (-2000)) hx hb d_Program_allowed_108 (by decide) ?_
    refine lv_sipush (v := 4000) hx hb d_Program_allowed_111 (by decide) ?_
    have hPc := hP.sub (ws' := []) [] rfl
    have hDc := hD.sub (ws' := []) [] (by decide) rfl
    refine xk_p (va_runSN (As := [.int a2, .int (-2000), .int 4000]) (rest := []) ⟨hx, hb, hml, hown, hts⟩ (c_U_within l dC dI Z A _ M a2 (-2000) 4000) ⟨va_cnB 3 hts (xw_call _ tw_327) rfl rfl rfl (hq.1 ("CentrifugeUnit$Program", 19, y_U_within, "CentrifugeUnit") (by decide +kernel)) (htt _ tw_1) (by decide +kernel) ⟨Nat.le_of_ble_eq_true rfl, Nat.le_of_ble_eq_true rfl⟩, htt _ tw_326, trivial⟩ ⟨xB_blind, fun U hU hW => ⟨rfl, xB_at hPc hK hDc hq U hU hW⟩⟩ rfl rfl hl.1 rfl (lv_room (Nat.le_of_ble_eq_true rfl)) d_Program_allowed_114 ⟨Nat.le_of_ble_eq_true rfl, Nat.le_of_ble_eq_true rfl⟩) ?_
    refine lv_topi (fun z16 hz16 => ?_)
    exact W.zret (ty := .boolean) hx hb hr (xz_nar (by rw [hz16]; exact f01_U_within M a2 (-2000) 4000)) (fun t ht hW => ⟨(by rw [F_Program_allowed, if_neg h1, if_neg h6, if_neg h8, if_neg h10, if_pos h15, ← hz16, F_Program_allowed_k7]), ht⟩) (fun _ h => absurd h List.not_mem_nil) d_Program_allowed_117
  refine lv_tableOut (tgt := 118) hx hb d_Program_allowed_1 (by have q0 := lv_neT (a := 0) h1 (by decide); have q1 := lv_neT (a := 1) h6 (by decide); have q2 := lv_neT (a := 2) h8 (by decide); have q3 := lv_neT (a := 3) h10 (by decide); have q4 := lv_neT (a := 4) h15 (by decide); omega) rfl ?_
  refine lv_iconst (v := 0) hx hb d_Program_allowed_118 (by decide) ?_
  exact W.zret (ty := .boolean) hx hb hr rfl (fun t ht hW => ⟨(by rw [F_Program_allowed, if_neg h1, if_neg h6, if_neg h8, if_neg h10, if_neg h15]), ht⟩) (fun _ h => absurd h List.not_mem_nil) d_Program_allowed_119
abbrev bc_Program_full : ByteArray := prog_5_method_3_code
def y_Program_full : MethodName := ⟨"CentrifugeUnit$Program", "full", "()Z"⟩
theorem d_Program_full_0 : decode bc_Program_full 0 = .ok (.aload_n 0, 1) := by decide +kernel
theorem d_Program_full_1 : decode bc_Program_full 1 = .ok (.getfield 27, 3) := by decide +kernel
theorem d_Program_full_4 : decode bc_Program_full 4 = .ok (.bipush 12, 2) := by decide +kernel
theorem d_Program_full_6 : decode bc_Program_full 6 = .ok (.if_icmp .lt 7, 3) := by decide +kernel
theorem d_Program_full_9 : decode bc_Program_full 9 = .ok (.iconst 1, 1) := by decide +kernel
theorem d_Program_full_10 : decode bc_Program_full 10 = .ok (.goto 4, 3) := by decide +kernel
theorem d_Program_full_13 : decode bc_Program_full 13 = .ok (.iconst 0, 1) := by decide +kernel
theorem d_Program_full_14 : decode bc_Program_full 14 = .ok (.ireturn, 1) := by decide +kernel
def F_Program_full (M : XM) : Int32 := (if (M.1 1) < 12 then 0 else 1)
theorem f01_Program_full (M : XM) : F_Program_full M = 0 ∨ F_Program_full M = 1 := by
  simp only [F_Program_full]; repeat' split
  all_goals first | exact Or.inl rfl | exact Or.inr rfl | simp
set_option maxHeartbeats 4000000 in
set_option maxRecDepth 100000 in
theorem c_Program_full (l : Launch) (dC : Nat → ClassId) (dI : Nat → Nat → Nat) (Z : Nat → ClassId) (A : Nat → Nat) (sz : Nat) (M : XM) : Met l y_Program_full (.code y_Program_full bc_Program_full 1 (some .boolean) :: xw) ({ frames := 0, cells := 0, slots := 0, locals := 0 }) (va_Pc [.ref (A 6)] (xB (dC, dI) xcl (xty Z) sz [(A 6, xc6 Z A M)])) (k2_QcV (.int (F_Program_full M))) 0 0 (fun _ => False) := by
  refine Met.ofW (cc := bc_Program_full) (maxL := 1) (ret := (some .boolean)) (by decide) rfl ?_
  intro p e s m args below meth c s₁ B hml hv
  obtain ⟨rfl, hsz, hP, hK, hD0, hq⟩ := hv
  have hx := B.exec
  have hb := B.bytes
  have hr := B.returns
  have hts := atoms_spec (ws := (.code y_Program_full bc_Program_full 1 (some .boolean) :: xw)) B.pre
  have htt : ∀ w ∈ xw, w.before _ s = true := fun w h => hts w (List.mem_cons_of_mem _ h)
  have hown : s.vm.findClass "CentrifugeUnit$Program" = some m.cls := findClass_of_methodNamed B.named
  have hlocks := B.notSynchronized
  subst hsz
  have hD : va_D (fun _ => True) [(A 6, .inr (3, [.ref (A 7), .ref (A 8), .ref (A 9), .int (M.1 1)]))] := hD0
  have hP : va_P (dC, dI) xcl [(A 6, .inr (3, [.ref (A 7), .ref (A 8), .ref (A 9), .int (M.1 1)]))] s.heap := hP
  have hl := lv_entry ([.ref (A 6)]) (n := 1) (Nat.le_of_ble_eq_true rfl)
  rw [lg_entry_eq]
  generalize (lg_sl ([.ref (A 6)]) ++ List.replicate (1 - (lg_sl ([.ref (A 6)])).length) Slot.unset).toArray = ls at hl ⊢
  have hl : lv_has ls 1 [(0, .ref (A 6))] := hl
  refine lv_aload_n hx hb d_Program_full_0 rfl (lv_at hl 0 rfl) ?_
  refine va_get (D := (dC, dI)) (ci := 3) (v := .int (M.1 1)) (C := "CentrifugeUnit$Program") (T := xF3) (N := 4) hx hb htt xin3 hown hK hP 0 rfl rfl 3 (by decide) (htt _ tw_67) (fun _ h9 => h9) rfl d_Program_full_1 ?_
  refine lv_bipush (v := 12) hx hb d_Program_full_4 (by decide) ?_
  refine lv_icmp_lt (tgt := 13) hx hb d_Program_full_6 rfl (fun h1 => ?_) (fun h1 => ?_)
  · refine lv_iconst (v := 0) hx hb d_Program_full_13 (by decide) ?_
    exact W.zret (ty := .boolean) hx hb hr rfl (fun t ht hW => ⟨(by rw [F_Program_full, if_pos h1]), ht⟩) (fun _ h => absurd h List.not_mem_nil) d_Program_full_14
  · refine lv_iconst (v := 1) hx hb d_Program_full_9 (by decide) ?_
    refine lv_goto (tgt := 14) hx hb d_Program_full_10 rfl ?_
    exact W.zret (ty := .boolean) hx hb hr rfl (fun t ht hW => ⟨(by rw [F_Program_full, if_neg h1]), ht⟩) (fun _ h => absurd h List.not_mem_nil) d_Program_full_14
abbrev bc_Program_has : ByteArray := prog_5_method_5_code
def y_Program_has : MethodName := ⟨"CentrifugeUnit$Program", "has", "(I)Z"⟩
theorem d_Program_has_0 : decode bc_Program_has 0 = .ok (.iload_n 1, 1) := by decide +kernel
theorem d_Program_has_1 : decode bc_Program_has 1 = .ok (.ifCond .lt 15, 3) := by decide +kernel
theorem d_Program_has_4 : decode bc_Program_has 4 = .ok (.iload_n 1, 1) := by decide +kernel
theorem d_Program_has_5 : decode bc_Program_has 5 = .ok (.aload_n 0, 1) := by decide +kernel
theorem d_Program_has_6 : decode bc_Program_has 6 = .ok (.getfield 27, 3) := by decide +kernel
theorem d_Program_has_9 : decode bc_Program_has 9 = .ok (.if_icmp .ge 7, 3) := by decide +kernel
theorem d_Program_has_12 : decode bc_Program_has 12 = .ok (.iconst 1, 1) := by decide +kernel
theorem d_Program_has_13 : decode bc_Program_has 13 = .ok (.goto 4, 3) := by decide +kernel
theorem d_Program_has_16 : decode bc_Program_has 16 = .ok (.iconst 0, 1) := by decide +kernel
theorem d_Program_has_17 : decode bc_Program_has 17 = .ok (.ireturn, 1) := by decide +kernel
def F_Program_has (M : XM) (a1 : Int32) : Int32 := (if a1 < 0 then 0 else (if (M.1 1) ≤ a1 then 0 else 1))
theorem f01_Program_has (M : XM) (a1 : Int32) : F_Program_has M a1 = 0 ∨ F_Program_has M a1 = 1 := by
  simp only [F_Program_has]; repeat' split
  all_goals first | exact Or.inl rfl | exact Or.inr rfl | simp
set_option maxHeartbeats 4000000 in
set_option maxRecDepth 100000 in
theorem c_Program_has (l : Launch) (dC : Nat → ClassId) (dI : Nat → Nat → Nat) (Z : Nat → ClassId) (A : Nat → Nat) (sz : Nat) (M : XM) (a1 : Int32) : Met l y_Program_has (.code y_Program_has bc_Program_has 2 (some .boolean) :: xw) ({ frames := 0, cells := 0, slots := 0, locals := 0 }) (va_Pc [.ref (A 6), .int a1] (xB (dC, dI) xcl (xty Z) sz [(A 6, xc6 Z A M)])) (k2_QcV (.int (F_Program_has M a1))) 0 0 (fun _ => False) := by
  refine Met.ofW (cc := bc_Program_has) (maxL := 2) (ret := (some .boolean)) (by decide) rfl ?_
  intro p e s m args below meth c s₁ B hml hv
  obtain ⟨rfl, hsz, hP, hK, hD0, hq⟩ := hv
  have hx := B.exec
  have hb := B.bytes
  have hr := B.returns
  have hts := atoms_spec (ws := (.code y_Program_has bc_Program_has 2 (some .boolean) :: xw)) B.pre
  have htt : ∀ w ∈ xw, w.before _ s = true := fun w h => hts w (List.mem_cons_of_mem _ h)
  have hown : s.vm.findClass "CentrifugeUnit$Program" = some m.cls := findClass_of_methodNamed B.named
  have hlocks := B.notSynchronized
  subst hsz
  have hD : va_D (fun _ => True) [(A 6, .inr (3, [.ref (A 7), .ref (A 8), .ref (A 9), .int (M.1 1)]))] := hD0
  have hP : va_P (dC, dI) xcl [(A 6, .inr (3, [.ref (A 7), .ref (A 8), .ref (A 9), .int (M.1 1)]))] s.heap := hP
  have hl := lv_entry ([.ref (A 6), .int a1]) (n := 2) (Nat.le_of_ble_eq_true rfl)
  rw [lg_entry_eq]
  generalize (lg_sl ([.ref (A 6), .int a1]) ++ List.replicate (2 - (lg_sl ([.ref (A 6), .int a1])).length) Slot.unset).toArray = ls at hl ⊢
  have hl : lv_has ls 2 [(0, .ref (A 6)), (1, .int a1)] := hl
  refine lv_iload_n hx hb d_Program_has_0 rfl (lv_at hl 1 rfl) ?_
  refine lv_if_lt (tgt := 16) hx hb d_Program_has_1 rfl (fun h1 => ?_) (fun h1 => ?_)
  · refine lv_iconst (v := 0) hx hb d_Program_has_16 (by decide) ?_
    exact W.zret (ty := .boolean) hx hb hr rfl (fun t ht hW => ⟨(by rw [F_Program_has, if_pos h1]), ht⟩) (fun _ h => absurd h List.not_mem_nil) d_Program_has_17
  · refine lv_iload_n hx hb d_Program_has_4 rfl (lv_at hl 1 rfl) ?_
    refine lv_aload_n hx hb d_Program_has_5 rfl (lv_at hl 0 rfl) ?_
    refine va_get (D := (dC, dI)) (ci := 3) (v := .int (M.1 1)) (C := "CentrifugeUnit$Program") (T := xF3) (N := 4) hx hb htt xin3 hown hK hP 0 rfl rfl 3 (by decide) (htt _ tw_67) (fun _ h9 => h9) rfl d_Program_has_6 ?_
    refine lv_icmp_ge (tgt := 16) hx hb d_Program_has_9 rfl (fun h2 => ?_) (fun h2 => ?_)
    · refine lv_iconst (v := 0) hx hb d_Program_has_16 (by decide) ?_
      exact W.zret (ty := .boolean) hx hb hr rfl (fun t ht hW => ⟨(by rw [F_Program_has, if_neg h1, if_pos h2]), ht⟩) (fun _ h => absurd h List.not_mem_nil) d_Program_has_17
    · refine lv_iconst (v := 1) hx hb d_Program_has_12 (by decide) ?_
      refine lv_goto (tgt := 17) hx hb d_Program_has_13 rfl ?_
      exact W.zret (ty := .boolean) hx hb hr rfl (fun t ht hW => ⟨(by rw [F_Program_has, if_neg h1, if_neg h2]), ht⟩) (fun _ h => absurd h List.not_mem_nil) d_Program_has_17
theorem xfull {M : XM} {z : Int32} (h : z = 0) (hz : z = F_Program_full M) (hc : 0 ≤ (M.1 1)) : vp_in (M.1 1) 12 := by
  rw [hz, F_Program_full] at h
  rw [Int32.le_iff_toInt_le] at hc
  split at h
  · rename_i h1
    rw [Int32.lt_iff_toInt_lt] at h1
    refine xin_of ?_ ?_ <;> simp at h1 hc ⊢ <;> omega
  · exact absurd h (by decide)
abbrev bc_Program_add : ByteArray := prog_5_method_4_code
def y_Program_add : MethodName := ⟨"CentrifugeUnit$Program", "add", "(III)V"⟩
theorem d_Program_add_0 : decode bc_Program_add 0 = .ok (.aload_n 0, 1) := by decide +kernel
theorem d_Program_add_1 : decode bc_Program_add 1 = .ok (.invokevirtual 31, 3) := by decide +kernel
theorem d_Program_add_4 : decode bc_Program_add 4 = .ok (.ifCond .eq 4, 3) := by decide +kernel
theorem d_Program_add_7 : decode bc_Program_add 7 = .ok (.return_, 1) := by decide +kernel
theorem d_Program_add_8 : decode bc_Program_add 8 = .ok (.aload_n 0, 1) := by decide +kernel
theorem d_Program_add_9 : decode bc_Program_add 9 = .ok (.getfield 9, 3) := by decide +kernel
theorem d_Program_add_12 : decode bc_Program_add 12 = .ok (.aload_n 0, 1) := by decide +kernel
theorem d_Program_add_13 : decode bc_Program_add 13 = .ok (.getfield 27, 3) := by decide +kernel
theorem d_Program_add_16 : decode bc_Program_add 16 = .ok (.iload_n 1, 1) := by decide +kernel
theorem d_Program_add_17 : decode bc_Program_add 17 = .ok (.iastore, 1) := by decide +kernel
theorem d_Program_add_18 : decode bc_Program_add 18 = .ok (.aload_n 0, 1) := by decide +kernel
theorem d_Program_add_19 : decode bc_Program_add 19 = .ok (.getfield 13, 3) := by decide +kernel
theorem d_Program_add_22 : decode bc_Program_add 22 = .ok (.aload_n 0, 1) := by decide +kernel
theorem d_Program_add_23 : decode bc_Program_add 23 = .ok (.getfield 27, 3) := by decide +kernel
theorem d_Program_add_26 : decode bc_Program_add 26 = .ok (.iload_n 2, 1) := by decide +kernel
theorem d_Program_add_27 : decode bc_Program_add 27 = .ok (.iastore, 1) := by decide +kernel
theorem d_Program_add_28 : decode bc_Program_add 28 = .ok (.aload_n 0, 1) := by decide +kernel
theorem d_Program_add_29 : decode bc_Program_add 29 = .ok (.getfield 16, 3) := by decide +kernel
theorem d_Program_add_32 : decode bc_Program_add 32 = .ok (.aload_n 0, 1) := by decide +kernel
theorem d_Program_add_33 : decode bc_Program_add 33 = .ok (.getfield 27, 3) := by decide +kernel
theorem d_Program_add_36 : decode bc_Program_add 36 = .ok (.iload_n 3, 1) := by decide +kernel
theorem d_Program_add_37 : decode bc_Program_add 37 = .ok (.iastore, 1) := by decide +kernel
theorem d_Program_add_38 : decode bc_Program_add 38 = .ok (.aload_n 0, 1) := by decide +kernel
theorem d_Program_add_39 : decode bc_Program_add 39 = .ok (.dup, 1) := by decide +kernel
theorem d_Program_add_40 : decode bc_Program_add 40 = .ok (.getfield 27, 3) := by decide +kernel
theorem d_Program_add_43 : decode bc_Program_add 43 = .ok (.iconst 1, 1) := by decide +kernel
theorem d_Program_add_44 : decode bc_Program_add 44 = .ok (.iadd, 1) := by decide +kernel
theorem d_Program_add_45 : decode bc_Program_add 45 = .ok (.putfield 27, 3) := by decide +kernel
theorem d_Program_add_48 : decode bc_Program_add 48 = .ok (.return_, 1) := by decide +kernel
abbrev ap_Program_add (M : XM) (u : ((Nat → Int32) × (Nat → Int32) × (Nat → Int32) × Int32)) : XM := ((va_up M.1 1 (u.2.2.2)), M.2.1, (va_up (va_up (va_up M.2.2.1 7 (u.1)) 8 (u.2.1)) 9 (u.2.2.1)), M.2.2.2)
def F_Program_add_k1 (M : XM) (a1 : Int32) (a2 : Int32) (a3 : Int32) (z1 : Int32) : ((Nat → Int32) × (Nat → Int32) × (Nat → Int32) × Int32) := (if z1 = 0 then ((upd (M.2.2.1 7) ((M.1 1)).toNatClampNeg a1), (upd (M.2.2.1 8) ((M.1 1)).toNatClampNeg a2), (upd (M.2.2.1 9) ((M.1 1)).toNatClampNeg a3), ((M.1 1) + 1)) else ((M.2.2.1 7), (M.2.2.1 8), (M.2.2.1 9), (M.1 1)))
def F_Program_add (M : XM) (a1 : Int32) (a2 : Int32) (a3 : Int32) : ((Nat → Int32) × (Nat → Int32) × (Nat → Int32) × Int32) := (F_Program_add_k1 M a1 a2 a3 (F_Program_full M))
set_option maxHeartbeats 4000000 in
set_option maxRecDepth 100000 in
theorem c_Program_add (l : Launch) (dC : Nat → ClassId) (dI : Nat → Nat → Nat) (Z : Nat → ClassId) (A : Nat → Nat) (sz : Nat) (M : XM) (a1 : Int32) (a2 : Int32) (a3 : Int32) (hc : 0 ≤ (M.1 1)) : Met l y_Program_add (.code y_Program_add bc_Program_add 4 none :: xw) ({ frames := 1, cells := 0, slots := 0, locals := 20 }) (va_Pc [.ref (A 6), .int a1, .int a2, .int a3] (xB (dC, dI) xcl (xty Z) sz [(A 6, xc6 Z A M), (A 7, xc7 Z A M), (A 8, xc8 Z A M), (A 9, xc9 Z A M)])) (va_Qv (fun u : ((Nat → Int32) × (Nat → Int32) × (Nat → Int32) × Int32) => u = F_Program_add M a1 a2 a3) (fun u => xE (dC, dI) xcl (xty Z) (va_A [(A 6, xc6 Z A M), (A 7, xc7 Z A M), (A 8, xc8 Z A M), (A 9, xc9 Z A M)] sz) [(A 6, xc6 Z A (ap_Program_add M u)), (A 7, xc7 Z A (ap_Program_add M u)), (A 8, xc8 Z A (ap_Program_add M u)), (A 9, xc9 Z A (ap_Program_add M u))]) (va_A [(A 6, xc6 Z A M), (A 7, xc7 Z A M), (A 8, xc8 Z A M), (A 9, xc9 Z A M)] sz)) 0 0 (va_A [(A 6, xc6 Z A M), (A 7, xc7 Z A M), (A 8, xc8 Z A M), (A 9, xc9 Z A M)] sz) := by
  refine Met.ofW (cc := bc_Program_add) (maxL := 4) (ret := none) (by decide) rfl ?_
  intro p e s m args below meth c s₁ B hml hv
  obtain ⟨rfl, hsz, hP, hK, hD0, hq⟩ := hv
  have hx := B.exec
  have hb := B.bytes
  have hr := B.returns
  have hts := atoms_spec (ws := (.code y_Program_add bc_Program_add 4 none :: xw)) B.pre
  have htt : ∀ w ∈ xw, w.before _ s = true := fun w h => hts w (List.mem_cons_of_mem _ h)
  have hown : s.vm.findClass "CentrifugeUnit$Program" = some m.cls := findClass_of_methodNamed B.named
  have hlocks := B.notSynchronized
  subst hsz
  have hD := hD0.self (sz := s.heap.size)
  generalize hAe : va_A [(A 6, xc6 Z A M), (A 7, xc7 Z A M), (A 8, xc8 Z A M), (A 9, xc9 Z A M)] s.heap.size = AA at hD ⊢
  have hA : ∀ q : Nat, s.heap.size ≤ q → AA q := fun q h => by rw [← hAe]; exact Or.inr h
  have hS : va_S AA s.heap s.heap [] := va_S.rf
  have hP : va_P (dC, dI) xcl [(A 6, .inr (3, [.ref (A 7), .ref (A 8), .ref (A 9), .int (M.1 1)])), (A 7, .inl (Z 0, 12, .inl (M.2.2.1 7))), (A 8, .inl (Z 0, 12, .inl (M.2.2.1 8))), (A 9, .inl (Z 0, 12, .inl (M.2.2.1 9)))] s.heap := hP
  have hD : va_D AA [(A 6, .inr (3, [.ref (A 7), .ref (A 8), .ref (A 9), .int (M.1 1)])), (A 7, .inl (Z 0, 12, .inl (M.2.2.1 7))), (A 8, .inl (Z 0, 12, .inl (M.2.2.1 8))), (A 9, .inl (Z 0, 12, .inl (M.2.2.1 9)))] := hD
  have hl := lv_entry ([.ref (A 6), .int a1, .int a2, .int a3]) (n := 4) (Nat.le_of_ble_eq_true rfl)
  rw [lg_entry_eq]
  generalize (lg_sl ([.ref (A 6), .int a1, .int a2, .int a3]) ++ List.replicate (4 - (lg_sl ([.ref (A 6), .int a1, .int a2, .int a3])).length) Slot.unset).toArray = ls at hl ⊢
  have hl : lv_has ls 4 [(0, .ref (A 6)), (1, .int a1), (2, .int a2), (3, .int a3)] := hl
  refine lv_aload_n hx hb d_Program_add_0 rfl (lv_at hl 0 rfl) ?_
  have hPc := hP.sub (ws' := [(A 6, xc6 Z A M)]) [0] rfl
  have hDc := hD.sub (ws' := [(A 6, xc6 Z A M)]) [0] (by decide) rfl
  refine xk_p (va_runV (As := []) (rest := []) ⟨hx, hb, hml, hown, hts⟩ (c_Program_full l dC dI Z A _ M) (cwV 0 hts (xw_V _ tw_477 tw_469 tw_470 tw_4 tw_471) rfl rfl rfl (by decide +kernel) ⟨Nat.le_of_ble_eq_true rfl, Nat.le_of_ble_eq_true rfl⟩) ⟨xB_blind, va_recv (q0 := 0) (ci := 3) hK hP rfl rfl, fun U hU hW => ⟨rfl, xB_at hPc hK hDc hq U hU hW⟩⟩ rfl rfl hl.1 rfl (lv_room (Nat.le_of_ble_eq_true rfl)) d_Program_add_1 ⟨Nat.le_of_ble_eq_true rfl, Nat.le_of_ble_eq_true rfl⟩) ?_
  refine lv_topi (fun z1 hz1 => ?_)
  refine lv_if_eq (tgt := 8) hx hb d_Program_add_4 rfl (fun h2 => ?_) (fun h2 => ?_)
  · refine lv_aload_n hx hb d_Program_add_8 rfl (lv_at hl 0 rfl) ?_
    refine va_get (D := (dC, dI)) (ci := 3) (v := .ref (A 7)) (C := "CentrifugeUnit$Program") (T := xF3) (N := 4) hx hb htt xin3 hown hK hP 0 rfl rfl 0 (by decide) (htt _ tw_61) (fun _ h9 => h9) rfl d_Program_add_9 ?_
    refine lv_aload_n hx hb d_Program_add_12 rfl (lv_at hl 0 rfl) ?_
    refine va_get (D := (dC, dI)) (ci := 3) (v := .int (M.1 1)) (C := "CentrifugeUnit$Program") (T := xF3) (N := 4) hx hb htt xin3 hown hK hP 0 rfl rfl 3 (by decide) (htt _ tw_67) (fun _ h9 => h9) rfl d_Program_add_13 ?_
    refine lv_iload_n hx hb d_Program_add_16 rfl (lv_at hl 1 rfl) ?_
    refine va_iast (D := (dC, dI)) hx hb hK hP hD hS 1 0 rfl rfl (xfull h2 hz1 hc) d_Program_add_17 (fun H locs hP hD hS => ?_)
    have hP : va_P (dC, dI) xcl [(A 6, .inr (3, [.ref (A 7), .ref (A 8), .ref (A 9), .int (M.1 1)])), (A 7, .inl (Z 0, 12, .inl (upd (M.2.2.1 7) ((M.1 1)).toNatClampNeg a1))), (A 8, .inl (Z 0, 12, .inl (M.2.2.1 8))), (A 9, .inl (Z 0, 12, .inl (M.2.2.1 9)))] H := hP
    have hD : va_D AA [(A 6, .inr (3, [.ref (A 7), .ref (A 8), .ref (A 9), .int (M.1 1)])), (A 7, .inl (Z 0, 12, .inl (upd (M.2.2.1 7) ((M.1 1)).toNatClampNeg a1))), (A 8, .inl (Z 0, 12, .inl (M.2.2.1 8))), (A 9, .inl (Z 0, 12, .inl (M.2.2.1 9)))] := hD
    refine lv_aload_n hx hb d_Program_add_18 rfl (lv_at hl 0 rfl) ?_
    refine va_get (D := (dC, dI)) (ci := 3) (v := .ref (A 8)) (C := "CentrifugeUnit$Program") (T := xF3) (N := 4) hx hb htt xin3 hown hK hP 0 rfl rfl 1 (by decide) (htt _ tw_63) (fun _ h9 => h9) rfl d_Program_add_19 ?_
    refine lv_aload_n hx hb d_Program_add_22 rfl (lv_at hl 0 rfl) ?_
    refine va_get (D := (dC, dI)) (ci := 3) (v := .int (M.1 1)) (C := "CentrifugeUnit$Program") (T := xF3) (N := 4) hx hb htt xin3 hown hK hP 0 rfl rfl 3 (by decide) (htt _ tw_67) (fun _ h9 => h9) rfl d_Program_add_23 ?_
    refine lv_iload_n hx hb d_Program_add_26 rfl (lv_at hl 2 rfl) ?_
    refine va_iast (D := (dC, dI)) hx hb hK hP hD hS 2 0 rfl rfl (xfull h2 hz1 hc) d_Program_add_27 (fun H locs hP hD hS => ?_)
    have hP : va_P (dC, dI) xcl [(A 6, .inr (3, [.ref (A 7), .ref (A 8), .ref (A 9), .int (M.1 1)])), (A 7, .inl (Z 0, 12, .inl (upd (M.2.2.1 7) ((M.1 1)).toNatClampNeg a1))), (A 8, .inl (Z 0, 12, .inl (upd (M.2.2.1 8) ((M.1 1)).toNatClampNeg a2))), (A 9, .inl (Z 0, 12, .inl (M.2.2.1 9)))] H := hP
    have hD : va_D AA [(A 6, .inr (3, [.ref (A 7), .ref (A 8), .ref (A 9), .int (M.1 1)])), (A 7, .inl (Z 0, 12, .inl (upd (M.2.2.1 7) ((M.1 1)).toNatClampNeg a1))), (A 8, .inl (Z 0, 12, .inl (upd (M.2.2.1 8) ((M.1 1)).toNatClampNeg a2))), (A 9, .inl (Z 0, 12, .inl (M.2.2.1 9)))] := hD
    refine lv_aload_n hx hb d_Program_add_28 rfl (lv_at hl 0 rfl) ?_
    refine va_get (D := (dC, dI)) (ci := 3) (v := .ref (A 9)) (C := "CentrifugeUnit$Program") (T := xF3) (N := 4) hx hb htt xin3 hown hK hP 0 rfl rfl 2 (by decide) (htt _ tw_65) (fun _ h9 => h9) rfl d_Program_add_29 ?_
    refine lv_aload_n hx hb d_Program_add_32 rfl (lv_at hl 0 rfl) ?_
    refine va_get (D := (dC, dI)) (ci := 3) (v := .int (M.1 1)) (C := "CentrifugeUnit$Program") (T := xF3) (N := 4) hx hb htt xin3 hown hK hP 0 rfl rfl 3 (by decide) (htt _ tw_67) (fun _ h9 => h9) rfl d_Program_add_33 ?_
    refine lv_iload_n hx hb d_Program_add_36 rfl (lv_at hl 3 rfl) ?_
    refine va_iast (D := (dC, dI)) hx hb hK hP hD hS 3 0 rfl rfl (xfull h2 hz1 hc) d_Program_add_37 (fun H locs hP hD hS => ?_)
    have hP : va_P (dC, dI) xcl [(A 6, .inr (3, [.ref (A 7), .ref (A 8), .ref (A 9), .int (M.1 1)])), (A 7, .inl (Z 0, 12, .inl (upd (M.2.2.1 7) ((M.1 1)).toNatClampNeg a1))), (A 8, .inl (Z 0, 12, .inl (upd (M.2.2.1 8) ((M.1 1)).toNatClampNeg a2))), (A 9, .inl (Z 0, 12, .inl (upd (M.2.2.1 9) ((M.1 1)).toNatClampNeg a3)))] H := hP
    have hD : va_D AA [(A 6, .inr (3, [.ref (A 7), .ref (A 8), .ref (A 9), .int (M.1 1)])), (A 7, .inl (Z 0, 12, .inl (upd (M.2.2.1 7) ((M.1 1)).toNatClampNeg a1))), (A 8, .inl (Z 0, 12, .inl (upd (M.2.2.1 8) ((M.1 1)).toNatClampNeg a2))), (A 9, .inl (Z 0, 12, .inl (upd (M.2.2.1 9) ((M.1 1)).toNatClampNeg a3)))] := hD
    refine lv_aload_n hx hb d_Program_add_38 rfl (lv_at hl 0 rfl) ?_
    refine lv_dup hx hb d_Program_add_39 rfl ?_
    refine va_get (D := (dC, dI)) (ci := 3) (v := .int (M.1 1)) (C := "CentrifugeUnit$Program") (T := xF3) (N := 4) hx hb htt xin3 hown hK hP 0 rfl rfl 3 (by decide) (htt _ tw_67) (fun _ h9 => h9) rfl d_Program_add_40 ?_
    refine lv_iconst (v := 1) hx hb d_Program_add_43 (by decide) ?_
    refine lv_iadd hx hb d_Program_add_44 ?_
    refine va_put (D := (dC, dI)) (ci := 3) (v := .int ((M.1 1) + 1)) (ty := .int) (C := "CentrifugeUnit$Program") (T := xF3) (N := 4) hx hb htt xin3 xT3 xTo3 xNm3 hown hK hP hD hS 0 rfl rfl 3 (by decide) (htt _ tw_67) (fun _ h9 => h9) rfl (by decide +kernel) rfl rfl (Nat.le_of_ble_eq_true rfl) d_Program_add_45 (fun H locs hP hD hS => ?_)
    have hP : va_P (dC, dI) xcl [(A 6, .inr (3, [.ref (A 7), .ref (A 8), .ref (A 9), .int ((M.1 1) + 1)])), (A 7, .inl (Z 0, 12, .inl (upd (M.2.2.1 7) ((M.1 1)).toNatClampNeg a1))), (A 8, .inl (Z 0, 12, .inl (upd (M.2.2.1 8) ((M.1 1)).toNatClampNeg a2))), (A 9, .inl (Z 0, 12, .inl (upd (M.2.2.1 9) ((M.1 1)).toNatClampNeg a3)))] H := hP
    have hD : va_D AA [(A 6, .inr (3, [.ref (A 7), .ref (A 8), .ref (A 9), .int ((M.1 1) + 1)])), (A 7, .inl (Z 0, 12, .inl (upd (M.2.2.1 7) ((M.1 1)).toNatClampNeg a1))), (A 8, .inl (Z 0, 12, .inl (upd (M.2.2.1 8) ((M.1 1)).toNatClampNeg a2))), (A 9, .inl (Z 0, 12, .inl (upd (M.2.2.1 9) ((M.1 1)).toNatClampNeg a3)))] := hD
    have hP9 := hP.sub (ws' := [(A 6, xc6 Z A (ap_Program_add M ((upd (M.2.2.1 7) ((M.1 1)).toNatClampNeg a1), (upd (M.2.2.1 8) ((M.1 1)).toNatClampNeg a2), (upd (M.2.2.1 9) ((M.1 1)).toNatClampNeg a3), ((M.1 1) + 1)))), (A 7, xc7 Z A (ap_Program_add M ((upd (M.2.2.1 7) ((M.1 1)).toNatClampNeg a1), (upd (M.2.2.1 8) ((M.1 1)).toNatClampNeg a2), (upd (M.2.2.1 9) ((M.1 1)).toNatClampNeg a3), ((M.1 1) + 1)))), (A 8, xc8 Z A (ap_Program_add M ((upd (M.2.2.1 7) ((M.1 1)).toNatClampNeg a1), (upd (M.2.2.1 8) ((M.1 1)).toNatClampNeg a2), (upd (M.2.2.1 9) ((M.1 1)).toNatClampNeg a3), ((M.1 1) + 1)))), (A 9, xc9 Z A (ap_Program_add M ((upd (M.2.2.1 7) ((M.1 1)).toNatClampNeg a1), (upd (M.2.2.1 8) ((M.1 1)).toNatClampNeg a2), (upd (M.2.2.1 9) ((M.1 1)).toNatClampNeg a3), ((M.1 1) + 1))))]) [0, 1, 2, 3] rfl
    have hD9 := hD.sub (ws' := [(A 6, xc6 Z A (ap_Program_add M ((upd (M.2.2.1 7) ((M.1 1)).toNatClampNeg a1), (upd (M.2.2.1 8) ((M.1 1)).toNatClampNeg a2), (upd (M.2.2.1 9) ((M.1 1)).toNatClampNeg a3), ((M.1 1) + 1)))), (A 7, xc7 Z A (ap_Program_add M ((upd (M.2.2.1 7) ((M.1 1)).toNatClampNeg a1), (upd (M.2.2.1 8) ((M.1 1)).toNatClampNeg a2), (upd (M.2.2.1 9) ((M.1 1)).toNatClampNeg a3), ((M.1 1) + 1)))), (A 8, xc8 Z A (ap_Program_add M ((upd (M.2.2.1 7) ((M.1 1)).toNatClampNeg a1), (upd (M.2.2.1 8) ((M.1 1)).toNatClampNeg a2), (upd (M.2.2.1 9) ((M.1 1)).toNatClampNeg a3), ((M.1 1) + 1)))), (A 9, xc9 Z A (ap_Program_add M ((upd (M.2.2.1 7) ((M.1 1)).toNatClampNeg a1), (upd (M.2.2.1 8) ((M.1 1)).toNatClampNeg a2), (upd (M.2.2.1 9) ((M.1 1)).toNatClampNeg a3), ((M.1 1) + 1))))]) [0, 1, 2, 3] (by decide) rfl
    exact W.vret hx hb hr (fun t ht hW => ⟨⟨((upd (M.2.2.1 7) ((M.1 1)).toNatClampNeg a1), (upd (M.2.2.1 8) ((M.1 1)).toNatClampNeg a2), (upd (M.2.2.1 9) ((M.1 1)).toNatClampNeg a3), ((M.1 1) + 1)), rfl, (by rw [F_Program_add, ← hz1, F_Program_add_k1, if_pos h2]), xE_at hP9 hK hD9 ht hW⟩, hS.F ht⟩) hS.2.2 d_Program_add_48
  · have hP9 := hP.sub (ws' := [(A 6, xc6 Z A (ap_Program_add M ((M.2.2.1 7), (M.2.2.1 8), (M.2.2.1 9), (M.1 1)))), (A 7, xc7 Z A (ap_Program_add M ((M.2.2.1 7), (M.2.2.1 8), (M.2.2.1 9), (M.1 1)))), (A 8, xc8 Z A (ap_Program_add M ((M.2.2.1 7), (M.2.2.1 8), (M.2.2.1 9), (M.1 1)))), (A 9, xc9 Z A (ap_Program_add M ((M.2.2.1 7), (M.2.2.1 8), (M.2.2.1 9), (M.1 1))))]) [0, 1, 2, 3] rfl
    have hD9 := hD.sub (ws' := [(A 6, xc6 Z A (ap_Program_add M ((M.2.2.1 7), (M.2.2.1 8), (M.2.2.1 9), (M.1 1)))), (A 7, xc7 Z A (ap_Program_add M ((M.2.2.1 7), (M.2.2.1 8), (M.2.2.1 9), (M.1 1)))), (A 8, xc8 Z A (ap_Program_add M ((M.2.2.1 7), (M.2.2.1 8), (M.2.2.1 9), (M.1 1)))), (A 9, xc9 Z A (ap_Program_add M ((M.2.2.1 7), (M.2.2.1 8), (M.2.2.1 9), (M.1 1))))]) [0, 1, 2, 3] (by decide) rfl
    exact W.vret hx hb hr (fun t ht hW => ⟨⟨((M.2.2.1 7), (M.2.2.1 8), (M.2.2.1 9), (M.1 1)), rfl, (by rw [F_Program_add, ← hz1, F_Program_add_k1, if_neg h2]), xE_at hP9 hK hD9 ht hW⟩, hS.F ht⟩) hS.2.2 d_Program_add_7
abbrev bc_Run_begin : ByteArray := prog_8_method_2_code
def y_Run_begin : MethodName := ⟨"CentrifugeUnit$Run", "begin", "()V"⟩
theorem d_Run_begin_0 : decode bc_Run_begin 0 = .ok (.aload_n 0, 1) := by decide +kernel
theorem d_Run_begin_1 : decode bc_Run_begin 1 = .ok (.lconst 0, 1) := by decide +kernel
theorem d_Run_begin_2 : decode bc_Run_begin 2 = .ok (.putfield 15, 3) := by decide +kernel
theorem d_Run_begin_5 : decode bc_Run_begin 5 = .ok (.aload_n 0, 1) := by decide +kernel
theorem d_Run_begin_6 : decode bc_Run_begin 6 = .ok (.lconst 0, 1) := by decide +kernel
theorem d_Run_begin_7 : decode bc_Run_begin 7 = .ok (.putfield 19, 3) := by decide +kernel
theorem d_Run_begin_10 : decode bc_Run_begin 10 = .ok (.aload_n 0, 1) := by decide +kernel
theorem d_Run_begin_11 : decode bc_Run_begin 11 = .ok (.iconst (-1), 1) := by decide +kernel
theorem d_Run_begin_12 : decode bc_Run_begin 12 = .ok (.putfield 9, 3) := by decide +kernel
theorem d_Run_begin_15 : decode bc_Run_begin 15 = .ok (.aload_n 0, 1) := by decide +kernel
theorem d_Run_begin_16 : decode bc_Run_begin 16 = .ok (.iconst 0, 1) := by decide +kernel
theorem d_Run_begin_17 : decode bc_Run_begin 17 = .ok (.putfield 22, 3) := by decide +kernel
theorem d_Run_begin_20 : decode bc_Run_begin 20 = .ok (.aload_n 0, 1) := by decide +kernel
theorem d_Run_begin_21 : decode bc_Run_begin 21 = .ok (.iconst 0, 1) := by decide +kernel
theorem d_Run_begin_22 : decode bc_Run_begin 22 = .ok (.putfield 26, 3) := by decide +kernel
theorem d_Run_begin_25 : decode bc_Run_begin 25 = .ok (.aload_n 0, 1) := by decide +kernel
theorem d_Run_begin_26 : decode bc_Run_begin 26 = .ok (.iconst 0, 1) := by decide +kernel
theorem d_Run_begin_27 : decode bc_Run_begin 27 = .ok (.putfield 29, 3) := by decide +kernel
theorem d_Run_begin_30 : decode bc_Run_begin 30 = .ok (.aload_n 0, 1) := by decide +kernel
theorem d_Run_begin_31 : decode bc_Run_begin 31 = .ok (.iconst 0, 1) := by decide +kernel
theorem d_Run_begin_32 : decode bc_Run_begin 32 = .ok (.putfield 32, 3) := by decide +kernel
theorem d_Run_begin_35 : decode bc_Run_begin 35 = .ok (.aload_n 0, 1) := by decide +kernel
theorem d_Run_begin_36 : decode bc_Run_begin 36 = .ok (.iconst 0, 1) := by decide +kernel
theorem d_Run_begin_37 : decode bc_Run_begin 37 = .ok (.putfield 35, 3) := by decide +kernel
theorem d_Run_begin_40 : decode bc_Run_begin 40 = .ok (.return_, 1) := by decide +kernel
abbrev ap_Run_begin (M : XM) (u : (Int64 × Int64 × Int32 × Int32 × Int32 × Int32 × Int32 × Int32)) : XM := ((va_up (va_up (va_up (va_up (va_up (va_up M.1 23 (u.2.2.1)) 24 (u.2.2.2.1)) 25 (u.2.2.2.2.1)) 26 (u.2.2.2.2.2.1)) 27 (u.2.2.2.2.2.2.1)) 28 (u.2.2.2.2.2.2.2)), (va_up (va_up M.2.1 1 (u.1)) 2 (u.2.1)), M.2.2)
def F_Run_begin (M : XM) : (Int64 × Int64 × Int32 × Int32 × Int32 × Int32 × Int32 × Int32) := (0, 0, (-1), 0, 0, 0, 0, 0)
set_option maxHeartbeats 4000000 in
set_option maxRecDepth 100000 in
theorem c_Run_begin (l : Launch) (dC : Nat → ClassId) (dI : Nat → Nat → Nat) (Z : Nat → ClassId) (A : Nat → Nat) (sz : Nat) (M : XM) : Met l y_Run_begin (.code y_Run_begin bc_Run_begin 1 none :: xw) ({ frames := 0, cells := 0, slots := 0, locals := 0 }) (va_Pc [.ref (A 19)] (xB (dC, dI) xcl (xty Z) sz [(A 19, xc19 Z A M)])) (va_Qv (fun u : (Int64 × Int64 × Int32 × Int32 × Int32 × Int32 × Int32 × Int32) => u = F_Run_begin M) (fun u => xE (dC, dI) xcl (xty Z) (va_A [(A 19, xc19 Z A M)] sz) [(A 19, xc19 Z A (ap_Run_begin M u))]) (va_A [(A 19, xc19 Z A M)] sz)) 0 0 (va_A [(A 19, xc19 Z A M)] sz) := by
  refine Met.ofW (cc := bc_Run_begin) (maxL := 1) (ret := none) (by decide) rfl ?_
  intro p e s m args below meth c s₁ B hml hv
  obtain ⟨rfl, hsz, hP, hK, hD0, hq⟩ := hv
  have hx := B.exec
  have hb := B.bytes
  have hr := B.returns
  have hts := atoms_spec (ws := (.code y_Run_begin bc_Run_begin 1 none :: xw)) B.pre
  have htt : ∀ w ∈ xw, w.before _ s = true := fun w h => hts w (List.mem_cons_of_mem _ h)
  have hown : s.vm.findClass "CentrifugeUnit$Run" = some m.cls := findClass_of_methodNamed B.named
  have hlocks := B.notSynchronized
  subst hsz
  have hD := hD0.self (sz := s.heap.size)
  generalize hAe : va_A [(A 19, xc19 Z A M)] s.heap.size = AA at hD ⊢
  have hA : ∀ q : Nat, s.heap.size ≤ q → AA q := fun q h => by rw [← hAe]; exact Or.inr h
  have hS : va_S AA s.heap s.heap [] := va_S.rf
  have hP : va_P (dC, dI) xcl [(A 19, .inr (6, [.long (M.2.1 1), .long (M.2.1 2), .int (M.1 23), .int (M.1 24), .int (M.1 25), .int (M.1 26), .int (M.1 27), .int (M.1 28)]))] s.heap := hP
  have hD : va_D AA [(A 19, .inr (6, [.long (M.2.1 1), .long (M.2.1 2), .int (M.1 23), .int (M.1 24), .int (M.1 25), .int (M.1 26), .int (M.1 27), .int (M.1 28)]))] := hD
  have hl := lv_entry ([.ref (A 19)]) (n := 1) (Nat.le_of_ble_eq_true rfl)
  rw [lg_entry_eq]
  generalize (lg_sl ([.ref (A 19)]) ++ List.replicate (1 - (lg_sl ([.ref (A 19)])).length) Slot.unset).toArray = ls at hl ⊢
  have hl : lv_has ls 1 [(0, .ref (A 19))] := hl
  refine lv_aload_n hx hb d_Run_begin_0 rfl (lv_at hl 0 rfl) ?_
  refine lv_lconst (v := 0) hx hb d_Run_begin_1 (by decide) ?_
  refine va_put (D := (dC, dI)) (ci := 6) (v := .long 0) (ty := .long) (C := "CentrifugeUnit$Run") (T := xF6) (N := 8) hx hb htt xin6 xT6 xTo6 xNm6 hown hK hP hD hS 0 rfl rfl 0 (by decide) (htt _ tw_194) (fun _ h9 => h9) rfl (by decide +kernel) rfl rfl (Nat.le_of_ble_eq_true rfl) d_Run_begin_2 (fun H locs hP hD hS => ?_)
  have hP : va_P (dC, dI) xcl [(A 19, .inr (6, [.long 0, .long (M.2.1 2), .int (M.1 23), .int (M.1 24), .int (M.1 25), .int (M.1 26), .int (M.1 27), .int (M.1 28)]))] H := hP
  have hD : va_D AA [(A 19, .inr (6, [.long 0, .long (M.2.1 2), .int (M.1 23), .int (M.1 24), .int (M.1 25), .int (M.1 26), .int (M.1 27), .int (M.1 28)]))] := hD
  refine lv_aload_n hx hb d_Run_begin_5 rfl (lv_at hl 0 rfl) ?_
  refine lv_lconst (v := 0) hx hb d_Run_begin_6 (by decide) ?_
  refine va_put (D := (dC, dI)) (ci := 6) (v := .long 0) (ty := .long) (C := "CentrifugeUnit$Run") (T := xF6) (N := 8) hx hb htt xin6 xT6 xTo6 xNm6 hown hK hP hD hS 0 rfl rfl 1 (by decide) (htt _ tw_197) (fun _ h9 => h9) rfl (by decide +kernel) rfl rfl (Nat.le_of_ble_eq_true rfl) d_Run_begin_7 (fun H locs hP hD hS => ?_)
  have hP : va_P (dC, dI) xcl [(A 19, .inr (6, [.long 0, .long 0, .int (M.1 23), .int (M.1 24), .int (M.1 25), .int (M.1 26), .int (M.1 27), .int (M.1 28)]))] H := hP
  have hD : va_D AA [(A 19, .inr (6, [.long 0, .long 0, .int (M.1 23), .int (M.1 24), .int (M.1 25), .int (M.1 26), .int (M.1 27), .int (M.1 28)]))] := hD
  refine lv_aload_n hx hb d_Run_begin_10 rfl (lv_at hl 0 rfl) ?_
  refine lv_iconst (v := (-1)) hx hb d_Run_begin_11 (by decide) ?_
  refine va_put (D := (dC, dI)) (ci := 6) (v := .int (-1)) (ty := .int) (C := "CentrifugeUnit$Run") (T := xF6) (N := 8) hx hb htt xin6 xT6 xTo6 xNm6 hown hK hP hD hS 0 rfl rfl 2 (by decide) (htt _ tw_199) (fun _ h9 => h9) rfl (by decide +kernel) rfl rfl (Nat.le_of_ble_eq_true rfl) d_Run_begin_12 (fun H locs hP hD hS => ?_)
  have hP : va_P (dC, dI) xcl [(A 19, .inr (6, [.long 0, .long 0, .int (-1), .int (M.1 24), .int (M.1 25), .int (M.1 26), .int (M.1 27), .int (M.1 28)]))] H := hP
  have hD : va_D AA [(A 19, .inr (6, [.long 0, .long 0, .int (-1), .int (M.1 24), .int (M.1 25), .int (M.1 26), .int (M.1 27), .int (M.1 28)]))] := hD
  refine lv_aload_n hx hb d_Run_begin_15 rfl (lv_at hl 0 rfl) ?_
  refine lv_iconst (v := 0) hx hb d_Run_begin_16 (by decide) ?_
  refine va_put (D := (dC, dI)) (ci := 6) (v := .int 0) (ty := .boolean) (C := "CentrifugeUnit$Run") (T := xF6) (N := 8) hx hb htt xin6 xT6 xTo6 xNm6 hown hK hP hD hS 0 rfl rfl 3 (by decide) (htt _ tw_202) (fun _ h9 => h9) rfl (by decide +kernel) rfl rfl (Nat.le_of_ble_eq_true rfl) d_Run_begin_17 (fun H locs hP hD hS => ?_)
  have hP : va_P (dC, dI) xcl [(A 19, .inr (6, [.long 0, .long 0, .int (-1), .int 0, .int (M.1 25), .int (M.1 26), .int (M.1 27), .int (M.1 28)]))] H := hP
  have hD : va_D AA [(A 19, .inr (6, [.long 0, .long 0, .int (-1), .int 0, .int (M.1 25), .int (M.1 26), .int (M.1 27), .int (M.1 28)]))] := hD
  refine lv_aload_n hx hb d_Run_begin_20 rfl (lv_at hl 0 rfl) ?_
  refine lv_iconst (v := 0) hx hb d_Run_begin_21 (by decide) ?_
  refine va_put (D := (dC, dI)) (ci := 6) (v := .int 0) (ty := .int) (C := "CentrifugeUnit$Run") (T := xF6) (N := 8) hx hb htt xin6 xT6 xTo6 xNm6 hown hK hP hD hS 0 rfl rfl 4 (by decide) (htt _ tw_204) (fun _ h9 => h9) rfl (by decide +kernel) rfl rfl (Nat.le_of_ble_eq_true rfl) d_Run_begin_22 (fun H locs hP hD hS => ?_)
  have hP : va_P (dC, dI) xcl [(A 19, .inr (6, [.long 0, .long 0, .int (-1), .int 0, .int 0, .int (M.1 26), .int (M.1 27), .int (M.1 28)]))] H := hP
  have hD : va_D AA [(A 19, .inr (6, [.long 0, .long 0, .int (-1), .int 0, .int 0, .int (M.1 26), .int (M.1 27), .int (M.1 28)]))] := hD
  refine lv_aload_n hx hb d_Run_begin_25 rfl (lv_at hl 0 rfl) ?_
  refine lv_iconst (v := 0) hx hb d_Run_begin_26 (by decide) ?_
  refine va_put (D := (dC, dI)) (ci := 6) (v := .int 0) (ty := .int) (C := "CentrifugeUnit$Run") (T := xF6) (N := 8) hx hb htt xin6 xT6 xTo6 xNm6 hown hK hP hD hS 0 rfl rfl 5 (by decide) (htt _ tw_206) (fun _ h9 => h9) rfl (by decide +kernel) rfl rfl (Nat.le_of_ble_eq_true rfl) d_Run_begin_27 (fun H locs hP hD hS => ?_)
  have hP : va_P (dC, dI) xcl [(A 19, .inr (6, [.long 0, .long 0, .int (-1), .int 0, .int 0, .int 0, .int (M.1 27), .int (M.1 28)]))] H := hP
  have hD : va_D AA [(A 19, .inr (6, [.long 0, .long 0, .int (-1), .int 0, .int 0, .int 0, .int (M.1 27), .int (M.1 28)]))] := hD
  refine lv_aload_n hx hb d_Run_begin_30 rfl (lv_at hl 0 rfl) ?_
  refine lv_iconst (v := 0) hx hb d_Run_begin_31 (by decide) ?_
  refine va_put (D := (dC, dI)) (ci := 6) (v := .int 0) (ty := .int) (C := "CentrifugeUnit$Run") (T := xF6) (N := 8) hx hb htt xin6 xT6 xTo6 xNm6 hown hK hP hD hS 0 rfl rfl 6 (by decide) (htt _ tw_209) (fun _ h9 => h9) rfl (by decide +kernel) rfl rfl (Nat.le_of_ble_eq_true rfl) d_Run_begin_32 (fun H locs hP hD hS => ?_)
  have hP : va_P (dC, dI) xcl [(A 19, .inr (6, [.long 0, .long 0, .int (-1), .int 0, .int 0, .int 0, .int 0, .int (M.1 28)]))] H := hP
  have hD : va_D AA [(A 19, .inr (6, [.long 0, .long 0, .int (-1), .int 0, .int 0, .int 0, .int 0, .int (M.1 28)]))] := hD
  refine lv_aload_n hx hb d_Run_begin_35 rfl (lv_at hl 0 rfl) ?_
  refine lv_iconst (v := 0) hx hb d_Run_begin_36 (by decide) ?_
  refine va_put (D := (dC, dI)) (ci := 6) (v := .int 0) (ty := .int) (C := "CentrifugeUnit$Run") (T := xF6) (N := 8) hx hb htt xin6 xT6 xTo6 xNm6 hown hK hP hD hS 0 rfl rfl 7 (by decide) (htt _ tw_211) (fun _ h9 => h9) rfl (by decide +kernel) rfl rfl (Nat.le_of_ble_eq_true rfl) d_Run_begin_37 (fun H locs hP hD hS => ?_)
  have hP : va_P (dC, dI) xcl [(A 19, .inr (6, [.long 0, .long 0, .int (-1), .int 0, .int 0, .int 0, .int 0, .int 0]))] H := hP
  have hD : va_D AA [(A 19, .inr (6, [.long 0, .long 0, .int (-1), .int 0, .int 0, .int 0, .int 0, .int 0]))] := hD
  have hP9 := hP.sub (ws' := [(A 19, xc19 Z A (ap_Run_begin M (0, 0, (-1), 0, 0, 0, 0, 0)))]) [0] rfl
  have hD9 := hD.sub (ws' := [(A 19, xc19 Z A (ap_Run_begin M (0, 0, (-1), 0, 0, 0, 0, 0)))]) [0] (by decide) rfl
  exact W.vret hx hb hr (fun t ht hW => ⟨⟨(0, 0, (-1), 0, 0, 0, 0, 0), rfl, (by rw [F_Run_begin]), xE_at hP9 hK hD9 ht hW⟩, hS.F ht⟩) hS.2.2 d_Run_begin_40
abbrev bc_Run_moveGoal : ByteArray := prog_8_method_4_code
def y_Run_moveGoal : MethodName := ⟨"CentrifugeUnit$Run", "moveGoal", "(II)V"⟩
theorem d_Run_moveGoal_0 : decode bc_Run_moveGoal 0 = .ok (.aload_n 0, 1) := by decide +kernel
theorem d_Run_moveGoal_1 : decode bc_Run_moveGoal 1 = .ok (.getfield 35, 3) := by decide +kernel
theorem d_Run_moveGoal_4 : decode bc_Run_moveGoal 4 = .ok (.iload_n 1, 1) := by decide +kernel
theorem d_Run_moveGoal_5 : decode bc_Run_moveGoal 5 = .ok (.if_icmp .ge 20, 3) := by decide +kernel
theorem d_Run_moveGoal_8 : decode bc_Run_moveGoal 8 = .ok (.aload_n 0, 1) := by decide +kernel
theorem d_Run_moveGoal_9 : decode bc_Run_moveGoal 9 = .ok (.iload_n 1, 1) := by decide +kernel
theorem d_Run_moveGoal_10 : decode bc_Run_moveGoal 10 = .ok (.aload_n 0, 1) := by decide +kernel
theorem d_Run_moveGoal_11 : decode bc_Run_moveGoal 11 = .ok (.getfield 35, 3) := by decide +kernel
theorem d_Run_moveGoal_14 : decode bc_Run_moveGoal 14 = .ok (.iload_n 2, 1) := by decide +kernel
theorem d_Run_moveGoal_15 : decode bc_Run_moveGoal 15 = .ok (.iadd, 1) := by decide +kernel
theorem d_Run_moveGoal_16 : decode bc_Run_moveGoal 16 = .ok (.invokestatic 48, 3) := by decide +kernel
theorem d_Run_moveGoal_19 : decode bc_Run_moveGoal 19 = .ok (.putfield 35, 3) := by decide +kernel
theorem d_Run_moveGoal_22 : decode bc_Run_moveGoal 22 = .ok (.goto 17, 3) := by decide +kernel
theorem d_Run_moveGoal_25 : decode bc_Run_moveGoal 25 = .ok (.aload_n 0, 1) := by decide +kernel
theorem d_Run_moveGoal_26 : decode bc_Run_moveGoal 26 = .ok (.iload_n 1, 1) := by decide +kernel
theorem d_Run_moveGoal_27 : decode bc_Run_moveGoal 27 = .ok (.aload_n 0, 1) := by decide +kernel
theorem d_Run_moveGoal_28 : decode bc_Run_moveGoal 28 = .ok (.getfield 35, 3) := by decide +kernel
theorem d_Run_moveGoal_31 : decode bc_Run_moveGoal 31 = .ok (.iload_n 2, 1) := by decide +kernel
theorem d_Run_moveGoal_32 : decode bc_Run_moveGoal 32 = .ok (.isub, 1) := by decide +kernel
theorem d_Run_moveGoal_33 : decode bc_Run_moveGoal 33 = .ok (.invokestatic 54, 3) := by decide +kernel
theorem d_Run_moveGoal_36 : decode bc_Run_moveGoal 36 = .ok (.putfield 35, 3) := by decide +kernel
theorem d_Run_moveGoal_39 : decode bc_Run_moveGoal 39 = .ok (.return_, 1) := by decide +kernel
abbrev ap_Run_moveGoal (M : XM) (u : Int32) : XM := ((va_up M.1 28 u), M.2)
def F_Run_moveGoal_k1 (M : XM) (a1 : Int32) (a2 : Int32) (z2 : Int32) : (Int32) := z2
def F_Run_moveGoal_k2 (M : XM) (a1 : Int32) (a2 : Int32) (z3 : Int32) : (Int32) := z3
def F_Run_moveGoal (M : XM) (a1 : Int32) (a2 : Int32) : (Int32) := (if a1 ≤ (M.1 28) then (F_Run_moveGoal_k1 M a1 a2 (if a1 < ((M.1 28) - a2) then ((M.1 28) - a2) else a1)) else (F_Run_moveGoal_k2 M a1 a2 (if ((M.1 28) + a2) < a1 then ((M.1 28) + a2) else a1)))
set_option maxHeartbeats 4000000 in
set_option maxRecDepth 100000 in
theorem c_Run_moveGoal (l : Launch) (dC : Nat → ClassId) (dI : Nat → Nat → Nat) (Z : Nat → ClassId) (A : Nat → Nat) (sz : Nat) (M : XM) (a1 : Int32) (a2 : Int32) : Met l y_Run_moveGoal (.code y_Run_moveGoal bc_Run_moveGoal 3 none :: xw) ({ frames := 1, cells := 0, slots := 0, locals := 23 }) (va_Pc [.ref (A 19), .int a1, .int a2] (xB (dC, dI) xcl (xty Z) sz [(A 19, xc19 Z A M)])) (va_Qv (fun u : Int32 => u = F_Run_moveGoal M a1 a2) (fun u => xE (dC, dI) xcl (xty Z) (va_A [(A 19, xc19 Z A M)] sz) [(A 19, xc19 Z A (ap_Run_moveGoal M u))]) (va_A [(A 19, xc19 Z A M)] sz)) 0 0 (va_A [(A 19, xc19 Z A M)] sz) := by
  refine Met.ofW (cc := bc_Run_moveGoal) (maxL := 3) (ret := none) (by decide) rfl ?_
  intro p e s m args below meth c s₁ B hml hv
  obtain ⟨rfl, hsz, hP, hK, hD0, hq⟩ := hv
  have hx := B.exec
  have hb := B.bytes
  have hr := B.returns
  have hts := atoms_spec (ws := (.code y_Run_moveGoal bc_Run_moveGoal 3 none :: xw)) B.pre
  have htt : ∀ w ∈ xw, w.before _ s = true := fun w h => hts w (List.mem_cons_of_mem _ h)
  have hown : s.vm.findClass "CentrifugeUnit$Run" = some m.cls := findClass_of_methodNamed B.named
  have hlocks := B.notSynchronized
  subst hsz
  have hD := hD0.self (sz := s.heap.size)
  generalize hAe : va_A [(A 19, xc19 Z A M)] s.heap.size = AA at hD ⊢
  have hA : ∀ q : Nat, s.heap.size ≤ q → AA q := fun q h => by rw [← hAe]; exact Or.inr h
  have hS : va_S AA s.heap s.heap [] := va_S.rf
  have hP : va_P (dC, dI) xcl [(A 19, .inr (6, [.long (M.2.1 1), .long (M.2.1 2), .int (M.1 23), .int (M.1 24), .int (M.1 25), .int (M.1 26), .int (M.1 27), .int (M.1 28)]))] s.heap := hP
  have hD : va_D AA [(A 19, .inr (6, [.long (M.2.1 1), .long (M.2.1 2), .int (M.1 23), .int (M.1 24), .int (M.1 25), .int (M.1 26), .int (M.1 27), .int (M.1 28)]))] := hD
  have hl := lv_entry ([.ref (A 19), .int a1, .int a2]) (n := 3) (Nat.le_of_ble_eq_true rfl)
  rw [lg_entry_eq]
  generalize (lg_sl ([.ref (A 19), .int a1, .int a2]) ++ List.replicate (3 - (lg_sl ([.ref (A 19), .int a1, .int a2])).length) Slot.unset).toArray = ls at hl ⊢
  have hl : lv_has ls 3 [(0, .ref (A 19)), (1, .int a1), (2, .int a2)] := hl
  refine lv_aload_n hx hb d_Run_moveGoal_0 rfl (lv_at hl 0 rfl) ?_
  refine va_get (D := (dC, dI)) (ci := 6) (v := .int (M.1 28)) (C := "CentrifugeUnit$Run") (T := xF6) (N := 8) hx hb htt xin6 hown hK hP 0 rfl rfl 7 (by decide) (htt _ tw_211) (fun _ h9 => h9) rfl d_Run_moveGoal_1 ?_
  refine lv_iload_n hx hb d_Run_moveGoal_4 rfl (lv_at hl 1 rfl) ?_
  refine lv_icmp_ge (tgt := 25) hx hb d_Run_moveGoal_5 rfl (fun h1 => ?_) (fun h1 => ?_)
  · refine lv_aload_n hx hb d_Run_moveGoal_25 rfl (lv_at hl 0 rfl) ?_
    refine lv_iload_n hx hb d_Run_moveGoal_26 rfl (lv_at hl 1 rfl) ?_
    refine lv_aload_n hx hb d_Run_moveGoal_27 rfl (lv_at hl 0 rfl) ?_
    refine va_get (D := (dC, dI)) (ci := 6) (v := .int (M.1 28)) (C := "CentrifugeUnit$Run") (T := xF6) (N := 8) hx hb htt xin6 hown hK hP 0 rfl rfl 7 (by decide) (htt _ tw_211) (fun _ h9 => h9) rfl d_Run_moveGoal_28 ?_
    refine lv_iload_n hx hb d_Run_moveGoal_31 rfl (lv_at hl 2 rfl) ?_
    refine lv_isub hx hb d_Run_moveGoal_32 ?_
    refine va_mmax hx hb (hml.trans hl.1.symm) hown (htt _ tw_682) (htt _ tw_611) (htt _ tw_18) (htt _ tw_612) (Nat.le_of_ble_eq_true rfl) (Nat.le_of_ble_eq_true rfl) (Nat.le_of_ble_eq_true rfl) (Nat.le_of_ble_eq_true rfl) d_Run_moveGoal_33 ?_
    refine lv_topi (fun z2 hz2 => ?_)
    refine va_put (D := (dC, dI)) (ci := 6) (v := .int z2) (ty := .int) (C := "CentrifugeUnit$Run") (T := xF6) (N := 8) hx hb htt xin6 xT6 xTo6 xNm6 hown hK hP hD hS 0 rfl rfl 7 (by decide) (htt _ tw_211) (fun _ h9 => h9) rfl (by decide +kernel) rfl rfl (Nat.le_of_ble_eq_true rfl) d_Run_moveGoal_36 (fun H locs hP hD hS => ?_)
    have hP : va_P (dC, dI) xcl [(A 19, .inr (6, [.long (M.2.1 1), .long (M.2.1 2), .int (M.1 23), .int (M.1 24), .int (M.1 25), .int (M.1 26), .int (M.1 27), .int z2]))] H := hP
    have hD : va_D AA [(A 19, .inr (6, [.long (M.2.1 1), .long (M.2.1 2), .int (M.1 23), .int (M.1 24), .int (M.1 25), .int (M.1 26), .int (M.1 27), .int z2]))] := hD
    have hP9 := hP.sub (ws' := [(A 19, xc19 Z A (ap_Run_moveGoal M z2))]) [0] rfl
    have hD9 := hD.sub (ws' := [(A 19, xc19 Z A (ap_Run_moveGoal M z2))]) [0] (by decide) rfl
    exact W.vret hx hb hr (fun t ht hW => ⟨⟨z2, rfl, (by rw [F_Run_moveGoal, if_pos h1, ← hz2, F_Run_moveGoal_k1]), xE_at hP9 hK hD9 ht hW⟩, hS.F ht⟩) hS.2.2 d_Run_moveGoal_39
  · refine lv_aload_n hx hb d_Run_moveGoal_8 rfl (lv_at hl 0 rfl) ?_
    refine lv_iload_n hx hb d_Run_moveGoal_9 rfl (lv_at hl 1 rfl) ?_
    refine lv_aload_n hx hb d_Run_moveGoal_10 rfl (lv_at hl 0 rfl) ?_
    refine va_get (D := (dC, dI)) (ci := 6) (v := .int (M.1 28)) (C := "CentrifugeUnit$Run") (T := xF6) (N := 8) hx hb htt xin6 hown hK hP 0 rfl rfl 7 (by decide) (htt _ tw_211) (fun _ h9 => h9) rfl d_Run_moveGoal_11 ?_
    refine lv_iload_n hx hb d_Run_moveGoal_14 rfl (lv_at hl 2 rfl) ?_
    refine lv_iadd hx hb d_Run_moveGoal_15 ?_
    refine va_mmin hx hb (hml.trans hl.1.symm) hown (htt _ tw_681) (htt _ tw_614) (htt _ tw_18) (htt _ tw_615) (Nat.le_of_ble_eq_true rfl) (Nat.le_of_ble_eq_true rfl) (Nat.le_of_ble_eq_true rfl) (Nat.le_of_ble_eq_true rfl) d_Run_moveGoal_16 ?_
    refine lv_topi (fun z3 hz3 => ?_)
    refine va_put (D := (dC, dI)) (ci := 6) (v := .int z3) (ty := .int) (C := "CentrifugeUnit$Run") (T := xF6) (N := 8) hx hb htt xin6 xT6 xTo6 xNm6 hown hK hP hD hS 0 rfl rfl 7 (by decide) (htt _ tw_211) (fun _ h9 => h9) rfl (by decide +kernel) rfl rfl (Nat.le_of_ble_eq_true rfl) d_Run_moveGoal_19 (fun H locs hP hD hS => ?_)
    have hP : va_P (dC, dI) xcl [(A 19, .inr (6, [.long (M.2.1 1), .long (M.2.1 2), .int (M.1 23), .int (M.1 24), .int (M.1 25), .int (M.1 26), .int (M.1 27), .int z3]))] H := hP
    have hD : va_D AA [(A 19, .inr (6, [.long (M.2.1 1), .long (M.2.1 2), .int (M.1 23), .int (M.1 24), .int (M.1 25), .int (M.1 26), .int (M.1 27), .int z3]))] := hD
    refine lv_goto (tgt := 39) hx hb d_Run_moveGoal_22 rfl ?_
    have hP9 := hP.sub (ws' := [(A 19, xc19 Z A (ap_Run_moveGoal M z3))]) [0] rfl
    have hD9 := hD.sub (ws' := [(A 19, xc19 Z A (ap_Run_moveGoal M z3))]) [0] (by decide) rfl
    exact W.vret hx hb hr (fun t ht hW => ⟨⟨z3, rfl, (by rw [F_Run_moveGoal, if_neg h1, ← hz3, F_Run_moveGoal_k2]), xE_at hP9 hK hD9 ht hW⟩, hS.F ht⟩) hS.2.2 d_Run_moveGoal_39
abbrev bc_Run_nextSegment : ByteArray := prog_8_method_5_code
def y_Run_nextSegment : MethodName := ⟨"CentrifugeUnit$Run", "nextSegment", "()V"⟩
theorem d_Run_nextSegment_0 : decode bc_Run_nextSegment 0 = .ok (.aload_n 0, 1) := by decide +kernel
theorem d_Run_nextSegment_1 : decode bc_Run_nextSegment 1 = .ok (.dup, 1) := by decide +kernel
theorem d_Run_nextSegment_2 : decode bc_Run_nextSegment 2 = .ok (.getfield 29, 3) := by decide +kernel
theorem d_Run_nextSegment_5 : decode bc_Run_nextSegment 5 = .ok (.iconst 1, 1) := by decide +kernel
theorem d_Run_nextSegment_6 : decode bc_Run_nextSegment 6 = .ok (.iadd, 1) := by decide +kernel
theorem d_Run_nextSegment_7 : decode bc_Run_nextSegment 7 = .ok (.putfield 29, 3) := by decide +kernel
theorem d_Run_nextSegment_10 : decode bc_Run_nextSegment 10 = .ok (.aload_n 0, 1) := by decide +kernel
theorem d_Run_nextSegment_11 : decode bc_Run_nextSegment 11 = .ok (.iconst 0, 1) := by decide +kernel
theorem d_Run_nextSegment_12 : decode bc_Run_nextSegment 12 = .ok (.putfield 32, 3) := by decide +kernel
theorem d_Run_nextSegment_15 : decode bc_Run_nextSegment 15 = .ok (.return_, 1) := by decide +kernel
abbrev ap_Run_nextSegment (M : XM) (u : (Int32 × Int32)) : XM := ((va_up (va_up M.1 26 (u.1)) 27 (u.2)), M.2)
def F_Run_nextSegment (M : XM) : (Int32 × Int32) := (((M.1 26) + 1), 0)
set_option maxHeartbeats 4000000 in
set_option maxRecDepth 100000 in
theorem c_Run_nextSegment (l : Launch) (dC : Nat → ClassId) (dI : Nat → Nat → Nat) (Z : Nat → ClassId) (A : Nat → Nat) (sz : Nat) (M : XM) : Met l y_Run_nextSegment (.code y_Run_nextSegment bc_Run_nextSegment 1 none :: xw) ({ frames := 0, cells := 0, slots := 0, locals := 0 }) (va_Pc [.ref (A 19)] (xB (dC, dI) xcl (xty Z) sz [(A 19, xc19 Z A M)])) (va_Qv (fun u : (Int32 × Int32) => u = F_Run_nextSegment M) (fun u => xE (dC, dI) xcl (xty Z) (va_A [(A 19, xc19 Z A M)] sz) [(A 19, xc19 Z A (ap_Run_nextSegment M u))]) (va_A [(A 19, xc19 Z A M)] sz)) 0 0 (va_A [(A 19, xc19 Z A M)] sz) := by
  refine Met.ofW (cc := bc_Run_nextSegment) (maxL := 1) (ret := none) (by decide) rfl ?_
  intro p e s m args below meth c s₁ B hml hv
  obtain ⟨rfl, hsz, hP, hK, hD0, hq⟩ := hv
  have hx := B.exec
  have hb := B.bytes
  have hr := B.returns
  have hts := atoms_spec (ws := (.code y_Run_nextSegment bc_Run_nextSegment 1 none :: xw)) B.pre
  have htt : ∀ w ∈ xw, w.before _ s = true := fun w h => hts w (List.mem_cons_of_mem _ h)
  have hown : s.vm.findClass "CentrifugeUnit$Run" = some m.cls := findClass_of_methodNamed B.named
  have hlocks := B.notSynchronized
  subst hsz
  have hD := hD0.self (sz := s.heap.size)
  generalize hAe : va_A [(A 19, xc19 Z A M)] s.heap.size = AA at hD ⊢
  have hA : ∀ q : Nat, s.heap.size ≤ q → AA q := fun q h => by rw [← hAe]; exact Or.inr h
  have hS : va_S AA s.heap s.heap [] := va_S.rf
  have hP : va_P (dC, dI) xcl [(A 19, .inr (6, [.long (M.2.1 1), .long (M.2.1 2), .int (M.1 23), .int (M.1 24), .int (M.1 25), .int (M.1 26), .int (M.1 27), .int (M.1 28)]))] s.heap := hP
  have hD : va_D AA [(A 19, .inr (6, [.long (M.2.1 1), .long (M.2.1 2), .int (M.1 23), .int (M.1 24), .int (M.1 25), .int (M.1 26), .int (M.1 27), .int (M.1 28)]))] := hD
  have hl := lv_entry ([.ref (A 19)]) (n := 1) (Nat.le_of_ble_eq_true rfl)
  rw [lg_entry_eq]
  generalize (lg_sl ([.ref (A 19)]) ++ List.replicate (1 - (lg_sl ([.ref (A 19)])).length) Slot.unset).toArray = ls at hl ⊢
  have hl : lv_has ls 1 [(0, .ref (A 19))] := hl
  refine lv_aload_n hx hb d_Run_nextSegment_0 rfl (lv_at hl 0 rfl) ?_
  refine lv_dup hx hb d_Run_nextSegment_1 rfl ?_
  refine va_get (D := (dC, dI)) (ci := 6) (v := .int (M.1 26)) (C := "CentrifugeUnit$Run") (T := xF6) (N := 8) hx hb htt xin6 hown hK hP 0 rfl rfl 5 (by decide) (htt _ tw_206) (fun _ h9 => h9) rfl d_Run_nextSegment_2 ?_
  refine lv_iconst (v := 1) hx hb d_Run_nextSegment_5 (by decide) ?_
  refine lv_iadd hx hb d_Run_nextSegment_6 ?_
  refine va_put (D := (dC, dI)) (ci := 6) (v := .int ((M.1 26) + 1)) (ty := .int) (C := "CentrifugeUnit$Run") (T := xF6) (N := 8) hx hb htt xin6 xT6 xTo6 xNm6 hown hK hP hD hS 0 rfl rfl 5 (by decide) (htt _ tw_206) (fun _ h9 => h9) rfl (by decide +kernel) rfl rfl (Nat.le_of_ble_eq_true rfl) d_Run_nextSegment_7 (fun H locs hP hD hS => ?_)
  have hP : va_P (dC, dI) xcl [(A 19, .inr (6, [.long (M.2.1 1), .long (M.2.1 2), .int (M.1 23), .int (M.1 24), .int (M.1 25), .int ((M.1 26) + 1), .int (M.1 27), .int (M.1 28)]))] H := hP
  have hD : va_D AA [(A 19, .inr (6, [.long (M.2.1 1), .long (M.2.1 2), .int (M.1 23), .int (M.1 24), .int (M.1 25), .int ((M.1 26) + 1), .int (M.1 27), .int (M.1 28)]))] := hD
  refine lv_aload_n hx hb d_Run_nextSegment_10 rfl (lv_at hl 0 rfl) ?_
  refine lv_iconst (v := 0) hx hb d_Run_nextSegment_11 (by decide) ?_
  refine va_put (D := (dC, dI)) (ci := 6) (v := .int 0) (ty := .int) (C := "CentrifugeUnit$Run") (T := xF6) (N := 8) hx hb htt xin6 xT6 xTo6 xNm6 hown hK hP hD hS 0 rfl rfl 6 (by decide) (htt _ tw_209) (fun _ h9 => h9) rfl (by decide +kernel) rfl rfl (Nat.le_of_ble_eq_true rfl) d_Run_nextSegment_12 (fun H locs hP hD hS => ?_)
  have hP : va_P (dC, dI) xcl [(A 19, .inr (6, [.long (M.2.1 1), .long (M.2.1 2), .int (M.1 23), .int (M.1 24), .int (M.1 25), .int ((M.1 26) + 1), .int 0, .int (M.1 28)]))] H := hP
  have hD : va_D AA [(A 19, .inr (6, [.long (M.2.1 1), .long (M.2.1 2), .int (M.1 23), .int (M.1 24), .int (M.1 25), .int ((M.1 26) + 1), .int 0, .int (M.1 28)]))] := hD
  have hP9 := hP.sub (ws' := [(A 19, xc19 Z A (ap_Run_nextSegment M (((M.1 26) + 1), 0)))]) [0] rfl
  have hD9 := hD.sub (ws' := [(A 19, xc19 Z A (ap_Run_nextSegment M (((M.1 26) + 1), 0)))]) [0] (by decide) rfl
  exact W.vret hx hb hr (fun t ht hW => ⟨⟨(((M.1 26) + 1), 0), rfl, (by rw [F_Run_nextSegment]), xE_at hP9 hK hD9 ht hW⟩, hS.F ht⟩) hS.2.2 d_Run_nextSegment_15
abbrev bc_Run_readPattern : ByteArray := prog_8_method_3_code
def y_Run_readPattern : MethodName := ⟨"CentrifugeUnit$Run", "readPattern", "(LCentrifugeUnit$Rotors;)V"⟩
theorem d_Run_readPattern_0 : decode bc_Run_readPattern 0 = .ok (.aload_n 0, 1) := by decide +kernel
theorem d_Run_readPattern_1 : decode bc_Run_readPattern 1 = .ok (.lconst 0, 1) := by decide +kernel
theorem d_Run_readPattern_2 : decode bc_Run_readPattern 2 = .ok (.putfield 19, 3) := by decide +kernel
theorem d_Run_readPattern_5 : decode bc_Run_readPattern 5 = .ok (.aload_n 1, 1) := by decide +kernel
theorem d_Run_readPattern_6 : decode bc_Run_readPattern 6 = .ok (.aload_n 1, 1) := by decide +kernel
theorem d_Run_readPattern_7 : decode bc_Run_readPattern 7 = .ok (.invokevirtual 38, 3) := by decide +kernel
theorem d_Run_readPattern_10 : decode bc_Run_readPattern 10 = .ok (.invokevirtual 44, 3) := by decide +kernel
theorem d_Run_readPattern_13 : decode bc_Run_readPattern 13 = .ok (.istore_n 2, 1) := by decide +kernel
theorem d_Run_readPattern_14 : decode bc_Run_readPattern 14 = .ok (.iload_n 2, 1) := by decide +kernel
theorem d_Run_readPattern_15 : decode bc_Run_readPattern 15 = .ok (.iconst (-1), 1) := by decide +kernel
theorem d_Run_readPattern_16 : decode bc_Run_readPattern 16 = .ok (.if_icmp .eq 19, 3) := by decide +kernel
theorem d_Run_readPattern_19 : decode bc_Run_readPattern 19 = .ok (.aload_n 0, 1) := by decide +kernel
theorem d_Run_readPattern_20 : decode bc_Run_readPattern 20 = .ok (.getfield 9, 3) := by decide +kernel
theorem d_Run_readPattern_23 : decode bc_Run_readPattern 23 = .ok (.iconst (-1), 1) := by decide +kernel
theorem d_Run_readPattern_24 : decode bc_Run_readPattern 24 = .ok (.if_icmp .eq 19, 3) := by decide +kernel
theorem d_Run_readPattern_27 : decode bc_Run_readPattern 27 = .ok (.iload_n 2, 1) := by decide +kernel
theorem d_Run_readPattern_28 : decode bc_Run_readPattern 28 = .ok (.aload_n 0, 1) := by decide +kernel
theorem d_Run_readPattern_29 : decode bc_Run_readPattern 29 = .ok (.getfield 9, 3) := by decide +kernel
theorem d_Run_readPattern_32 : decode bc_Run_readPattern 32 = .ok (.if_icmp .eq 11, 3) := by decide +kernel
theorem d_Run_readPattern_35 : decode bc_Run_readPattern 35 = .ok (.aload_n 0, 1) := by decide +kernel
theorem d_Run_readPattern_36 : decode bc_Run_readPattern 36 = .ok (.iconst 1, 1) := by decide +kernel
theorem d_Run_readPattern_37 : decode bc_Run_readPattern 37 = .ok (.putfield 22, 3) := by decide +kernel
theorem d_Run_readPattern_40 : decode bc_Run_readPattern 40 = .ok (.goto 8, 3) := by decide +kernel
theorem d_Run_readPattern_43 : decode bc_Run_readPattern 43 = .ok (.aload_n 0, 1) := by decide +kernel
theorem d_Run_readPattern_44 : decode bc_Run_readPattern 44 = .ok (.iload_n 2, 1) := by decide +kernel
theorem d_Run_readPattern_45 : decode bc_Run_readPattern 45 = .ok (.putfield 9, 3) := by decide +kernel
theorem d_Run_readPattern_48 : decode bc_Run_readPattern 48 = .ok (.return_, 1) := by decide +kernel
abbrev ap_Run_readPattern (M : XM) (u : (Int64 × Int32 × Int32)) : XM := ((va_up (va_up M.1 24 (u.2.1)) 23 (u.2.2)), (va_up M.2.1 2 (u.1)), M.2.2)
def F_Run_readPattern_k2 (M : XM) (z1 : Int32) (z2 : Int32) : (Int64 × Int32 × Int32) := (if z2 = (-1) then (0, 1, (M.1 23)) else (if (M.1 23) = (-1) then (0, (M.1 24), z2) else (if z2 = (M.1 23) then (0, (M.1 24), z2) else (0, 1, (M.1 23)))))
def F_Run_readPattern_k1 (M : XM) (z1 : Int32) : (Int64 × Int32 × Int32) := (F_Run_readPattern_k2 M z1 (F_Rotors_withPattern M z1))
def F_Run_readPattern (M : XM) : (Int64 × Int32 × Int32) := (F_Run_readPattern_k1 M (F_Rotors_patternIn M))
set_option maxHeartbeats 4000000 in
set_option maxRecDepth 100000 in
theorem c_Run_readPattern (l : Launch) (dC : Nat → ClassId) (dI : Nat → Nat → Nat) (Z : Nat → ClassId) (A : Nat → Nat) (sz : Nat) (M : XM) : Met l y_Run_readPattern (.code y_Run_readPattern bc_Run_readPattern 3 none :: xw) ({ frames := 3, cells := 0, slots := 0, locals := 62 }) (va_Pc [.ref (A 19), .ref (A 1)] (xB (dC, dI) xcl (xty Z) sz [(A 19, xc19 Z A M), (A 1, xc1 Z A M), (A 2, xc2 Z A M)])) (va_Qv (fun u : (Int64 × Int32 × Int32) => u = F_Run_readPattern M) (fun u => xE (dC, dI) xcl (xty Z) (va_A [(A 19, xc19 Z A M), (A 1, xc1 Z A M), (A 2, xc2 Z A M)] sz) [(A 19, xc19 Z A (ap_Run_readPattern M u)), (A 1, xc1 Z A (ap_Run_readPattern M u)), (A 2, xc2 Z A (ap_Run_readPattern M u))]) (va_A [(A 19, xc19 Z A M), (A 1, xc1 Z A M), (A 2, xc2 Z A M)] sz)) 0 0 (va_A [(A 19, xc19 Z A M), (A 1, xc1 Z A M), (A 2, xc2 Z A M)] sz) := by
  refine Met.ofW (cc := bc_Run_readPattern) (maxL := 3) (ret := none) (by decide) rfl ?_
  intro p e s m args below meth c s₁ B hml hv
  obtain ⟨rfl, hsz, hP, hK, hD0, hq⟩ := hv
  have hx := B.exec
  have hb := B.bytes
  have hr := B.returns
  have hts := atoms_spec (ws := (.code y_Run_readPattern bc_Run_readPattern 3 none :: xw)) B.pre
  have htt : ∀ w ∈ xw, w.before _ s = true := fun w h => hts w (List.mem_cons_of_mem _ h)
  have hown : s.vm.findClass "CentrifugeUnit$Run" = some m.cls := findClass_of_methodNamed B.named
  have hlocks := B.notSynchronized
  subst hsz
  have hD := hD0.self (sz := s.heap.size)
  generalize hAe : va_A [(A 19, xc19 Z A M), (A 1, xc1 Z A M), (A 2, xc2 Z A M)] s.heap.size = AA at hD ⊢
  have hA : ∀ q : Nat, s.heap.size ≤ q → AA q := fun q h => by rw [← hAe]; exact Or.inr h
  have hS : va_S AA s.heap s.heap [] := va_S.rf
  have hP : va_P (dC, dI) xcl [(A 19, .inr (6, [.long (M.2.1 1), .long (M.2.1 2), .int (M.1 23), .int (M.1 24), .int (M.1 25), .int (M.1 26), .int (M.1 27), .int (M.1 28)])), (A 1, .inr (5, [.ref (A 2), .ref (A 3), .ref (A 4), .ref (A 5), .int (M.1 0)])), (A 2, .inl (Z 0, 4, .inl (M.2.2.1 2)))] s.heap := hP
  have hD : va_D AA [(A 19, .inr (6, [.long (M.2.1 1), .long (M.2.1 2), .int (M.1 23), .int (M.1 24), .int (M.1 25), .int (M.1 26), .int (M.1 27), .int (M.1 28)])), (A 1, .inr (5, [.ref (A 2), .ref (A 3), .ref (A 4), .ref (A 5), .int (M.1 0)])), (A 2, .inl (Z 0, 4, .inl (M.2.2.1 2)))] := hD
  have hl := lv_entry ([.ref (A 19), .ref (A 1)]) (n := 3) (Nat.le_of_ble_eq_true rfl)
  rw [lg_entry_eq]
  generalize (lg_sl ([.ref (A 19), .ref (A 1)]) ++ List.replicate (3 - (lg_sl ([.ref (A 19), .ref (A 1)])).length) Slot.unset).toArray = ls at hl ⊢
  have hl : lv_has ls 3 [(0, .ref (A 19)), (1, .ref (A 1))] := hl
  refine lv_aload_n hx hb d_Run_readPattern_0 rfl (lv_at hl 0 rfl) ?_
  refine lv_lconst (v := 0) hx hb d_Run_readPattern_1 (by decide) ?_
  refine va_put (D := (dC, dI)) (ci := 6) (v := .long 0) (ty := .long) (C := "CentrifugeUnit$Run") (T := xF6) (N := 8) hx hb htt xin6 xT6 xTo6 xNm6 hown hK hP hD hS 0 rfl rfl 1 (by decide) (htt _ tw_197) (fun _ h9 => h9) rfl (by decide +kernel) rfl rfl (Nat.le_of_ble_eq_true rfl) d_Run_readPattern_2 (fun H locs hP hD hS => ?_)
  have hP : va_P (dC, dI) xcl [(A 19, .inr (6, [.long (M.2.1 1), .long 0, .int (M.1 23), .int (M.1 24), .int (M.1 25), .int (M.1 26), .int (M.1 27), .int (M.1 28)])), (A 1, .inr (5, [.ref (A 2), .ref (A 3), .ref (A 4), .ref (A 5), .int (M.1 0)])), (A 2, .inl (Z 0, 4, .inl (M.2.2.1 2)))] H := hP
  have hD : va_D AA [(A 19, .inr (6, [.long (M.2.1 1), .long 0, .int (M.1 23), .int (M.1 24), .int (M.1 25), .int (M.1 26), .int (M.1 27), .int (M.1 28)])), (A 1, .inr (5, [.ref (A 2), .ref (A 3), .ref (A 4), .ref (A 5), .int (M.1 0)])), (A 2, .inl (Z 0, 4, .inl (M.2.2.1 2)))] := hD
  refine lv_aload_n hx hb d_Run_readPattern_5 rfl (lv_at hl 1 rfl) ?_
  refine lv_aload_n hx hb d_Run_readPattern_6 rfl (lv_at hl 1 rfl) ?_
  have hPc := hP.sub (ws' := [(A 1, xc1 Z A M), (A 2, xc2 Z A M)]) [1, 2] rfl
  have hDc := hD.sub (ws' := [(A 1, xc1 Z A M), (A 2, xc2 Z A M)]) [1, 2] (by decide) rfl
  refine xk_p (va_runV (As := []) (rest := [.ref (A 1)]) ⟨hx, hb, hml, hown, hts⟩ (c_Rotors_patternIn l dC dI Z A _ M) (cwV 0 hts (xw_V _ tw_629 tw_630 tw_631 tw_2 tw_632) rfl rfl rfl (by decide +kernel) ⟨Nat.le_of_ble_eq_true rfl, Nat.le_of_ble_eq_true rfl⟩) ⟨xB_blind, va_recv (q0 := 1) (ci := 5) hK hP rfl rfl, fun U hU hW => ⟨rfl, xB_at hPc hK hDc hq U hU hW⟩⟩ rfl rfl hl.1 rfl (lv_room (Nat.le_of_ble_eq_true rfl)) d_Run_readPattern_7 ⟨Nat.le_of_ble_eq_true rfl, Nat.le_of_ble_eq_true rfl⟩) ?_
  refine lv_topi (fun z1 hz1 => ?_)
  have hPc := hP.sub (ws' := [(A 1, xc1 Z A M), (A 2, xc2 Z A M)]) [1, 2] rfl
  have hDc := hD.sub (ws' := [(A 1, xc1 Z A M), (A 2, xc2 Z A M)]) [1, 2] (by decide) rfl
  refine xk_p (va_runV (As := [.int z1]) (rest := []) ⟨hx, hb, hml, hown, hts⟩ (c_Rotors_withPattern l dC dI Z A _ M z1) (cwV 1 hts (xw_V _ tw_633 tw_350 tw_351 tw_2 tw_352) rfl rfl rfl (by decide +kernel) ⟨Nat.le_of_ble_eq_true rfl, Nat.le_of_ble_eq_true rfl⟩) ⟨xB_blind, va_recv (q0 := 1) (ci := 5) hK hP rfl rfl, fun U hU hW => ⟨rfl, xB_at hPc hK hDc hq U hU hW⟩⟩ rfl rfl hl.1 rfl (lv_room (Nat.le_of_ble_eq_true rfl)) d_Run_readPattern_10 ⟨Nat.le_of_ble_eq_true rfl, Nat.le_of_ble_eq_true rfl⟩) ?_
  refine lv_topi (fun z2 hz2 => ?_)
  refine lv_istore_n (lv' := [(2, .int z2), (0, .ref (A 19)), (1, .ref (A 1))]) hx hb d_Run_readPattern_13 rfl hl (by decide) rfl (fun ls hl => ?_)
  refine lv_iload_n hx hb d_Run_readPattern_14 rfl (lv_at hl 0 rfl) ?_
  refine lv_iconst (v := (-1)) hx hb d_Run_readPattern_15 (by decide) ?_
  refine lv_icmp_eq (tgt := 35) hx hb d_Run_readPattern_16 rfl (fun h3 => ?_) (fun h3 => ?_)
  · refine lv_aload_n hx hb d_Run_readPattern_35 rfl (lv_at hl 1 rfl) ?_
    refine lv_iconst (v := 1) hx hb d_Run_readPattern_36 (by decide) ?_
    refine va_put (D := (dC, dI)) (ci := 6) (v := .int 1) (ty := .boolean) (C := "CentrifugeUnit$Run") (T := xF6) (N := 8) hx hb htt xin6 xT6 xTo6 xNm6 hown hK hP hD hS 0 rfl rfl 3 (by decide) (htt _ tw_202) (fun _ h9 => h9) rfl (by decide +kernel) rfl rfl (Nat.le_of_ble_eq_true rfl) d_Run_readPattern_37 (fun H locs hP hD hS => ?_)
    have hP : va_P (dC, dI) xcl [(A 19, .inr (6, [.long (M.2.1 1), .long 0, .int (M.1 23), .int 1, .int (M.1 25), .int (M.1 26), .int (M.1 27), .int (M.1 28)])), (A 1, .inr (5, [.ref (A 2), .ref (A 3), .ref (A 4), .ref (A 5), .int (M.1 0)])), (A 2, .inl (Z 0, 4, .inl (M.2.2.1 2)))] H := hP
    have hD : va_D AA [(A 19, .inr (6, [.long (M.2.1 1), .long 0, .int (M.1 23), .int 1, .int (M.1 25), .int (M.1 26), .int (M.1 27), .int (M.1 28)])), (A 1, .inr (5, [.ref (A 2), .ref (A 3), .ref (A 4), .ref (A 5), .int (M.1 0)])), (A 2, .inl (Z 0, 4, .inl (M.2.2.1 2)))] := hD
    refine lv_goto (tgt := 48) hx hb d_Run_readPattern_40 rfl ?_
    have hP9 := hP.sub (ws' := [(A 19, xc19 Z A (ap_Run_readPattern M (0, 1, (M.1 23)))), (A 1, xc1 Z A (ap_Run_readPattern M (0, 1, (M.1 23)))), (A 2, xc2 Z A (ap_Run_readPattern M (0, 1, (M.1 23))))]) [0, 1, 2] rfl
    have hD9 := hD.sub (ws' := [(A 19, xc19 Z A (ap_Run_readPattern M (0, 1, (M.1 23)))), (A 1, xc1 Z A (ap_Run_readPattern M (0, 1, (M.1 23)))), (A 2, xc2 Z A (ap_Run_readPattern M (0, 1, (M.1 23))))]) [0, 1, 2] (by decide) rfl
    exact W.vret hx hb hr (fun t ht hW => ⟨⟨(0, 1, (M.1 23)), rfl, (by rw [F_Run_readPattern, ← hz1, F_Run_readPattern_k1, ← hz2, F_Run_readPattern_k2, if_pos h3]), xE_at hP9 hK hD9 ht hW⟩, hS.F ht⟩) hS.2.2 d_Run_readPattern_48
  · refine lv_aload_n hx hb d_Run_readPattern_19 rfl (lv_at hl 1 rfl) ?_
    refine va_get (D := (dC, dI)) (ci := 6) (v := .int (M.1 23)) (C := "CentrifugeUnit$Run") (T := xF6) (N := 8) hx hb htt xin6 hown hK hP 0 rfl rfl 2 (by decide) (htt _ tw_199) (fun _ h9 => h9) rfl d_Run_readPattern_20 ?_
    refine lv_iconst (v := (-1)) hx hb d_Run_readPattern_23 (by decide) ?_
    refine lv_icmp_eq (tgt := 43) hx hb d_Run_readPattern_24 rfl (fun h4 => ?_) (fun h4 => ?_)
    · refine lv_aload_n hx hb d_Run_readPattern_43 rfl (lv_at hl 1 rfl) ?_
      refine lv_iload_n hx hb d_Run_readPattern_44 rfl (lv_at hl 0 rfl) ?_
      refine va_put (D := (dC, dI)) (ci := 6) (v := .int z2) (ty := .int) (C := "CentrifugeUnit$Run") (T := xF6) (N := 8) hx hb htt xin6 xT6 xTo6 xNm6 hown hK hP hD hS 0 rfl rfl 2 (by decide) (htt _ tw_199) (fun _ h9 => h9) rfl (by decide +kernel) rfl rfl (Nat.le_of_ble_eq_true rfl) d_Run_readPattern_45 (fun H locs hP hD hS => ?_)
      have hP : va_P (dC, dI) xcl [(A 19, .inr (6, [.long (M.2.1 1), .long 0, .int z2, .int (M.1 24), .int (M.1 25), .int (M.1 26), .int (M.1 27), .int (M.1 28)])), (A 1, .inr (5, [.ref (A 2), .ref (A 3), .ref (A 4), .ref (A 5), .int (M.1 0)])), (A 2, .inl (Z 0, 4, .inl (M.2.2.1 2)))] H := hP
      have hD : va_D AA [(A 19, .inr (6, [.long (M.2.1 1), .long 0, .int z2, .int (M.1 24), .int (M.1 25), .int (M.1 26), .int (M.1 27), .int (M.1 28)])), (A 1, .inr (5, [.ref (A 2), .ref (A 3), .ref (A 4), .ref (A 5), .int (M.1 0)])), (A 2, .inl (Z 0, 4, .inl (M.2.2.1 2)))] := hD
      have hP9 := hP.sub (ws' := [(A 19, xc19 Z A (ap_Run_readPattern M (0, (M.1 24), z2))), (A 1, xc1 Z A (ap_Run_readPattern M (0, (M.1 24), z2))), (A 2, xc2 Z A (ap_Run_readPattern M (0, (M.1 24), z2)))]) [0, 1, 2] rfl
      have hD9 := hD.sub (ws' := [(A 19, xc19 Z A (ap_Run_readPattern M (0, (M.1 24), z2))), (A 1, xc1 Z A (ap_Run_readPattern M (0, (M.1 24), z2))), (A 2, xc2 Z A (ap_Run_readPattern M (0, (M.1 24), z2)))]) [0, 1, 2] (by decide) rfl
      exact W.vret hx hb hr (fun t ht hW => ⟨⟨(0, (M.1 24), z2), rfl, (by rw [F_Run_readPattern, ← hz1, F_Run_readPattern_k1, ← hz2, F_Run_readPattern_k2, if_neg h3, if_pos h4]), xE_at hP9 hK hD9 ht hW⟩, hS.F ht⟩) hS.2.2 d_Run_readPattern_48
    · refine lv_iload_n hx hb d_Run_readPattern_27 rfl (lv_at hl 0 rfl) ?_
      refine lv_aload_n hx hb d_Run_readPattern_28 rfl (lv_at hl 1 rfl) ?_
      refine va_get (D := (dC, dI)) (ci := 6) (v := .int (M.1 23)) (C := "CentrifugeUnit$Run") (T := xF6) (N := 8) hx hb htt xin6 hown hK hP 0 rfl rfl 2 (by decide) (htt _ tw_199) (fun _ h9 => h9) rfl d_Run_readPattern_29 ?_
      refine lv_icmp_eq (tgt := 43) hx hb d_Run_readPattern_32 rfl (fun h5 => ?_) (fun h5 => ?_)
      · refine lv_aload_n hx hb d_Run_readPattern_43 rfl (lv_at hl 1 rfl) ?_
        refine lv_iload_n hx hb d_Run_readPattern_44 rfl (lv_at hl 0 rfl) ?_
        refine va_put (D := (dC, dI)) (ci := 6) (v := .int z2) (ty := .int) (C := "CentrifugeUnit$Run") (T := xF6) (N := 8) hx hb htt xin6 xT6 xTo6 xNm6 hown hK hP hD hS 0 rfl rfl 2 (by decide) (htt _ tw_199) (fun _ h9 => h9) rfl (by decide +kernel) rfl rfl (Nat.le_of_ble_eq_true rfl) d_Run_readPattern_45 (fun H locs hP hD hS => ?_)
        have hP : va_P (dC, dI) xcl [(A 19, .inr (6, [.long (M.2.1 1), .long 0, .int z2, .int (M.1 24), .int (M.1 25), .int (M.1 26), .int (M.1 27), .int (M.1 28)])), (A 1, .inr (5, [.ref (A 2), .ref (A 3), .ref (A 4), .ref (A 5), .int (M.1 0)])), (A 2, .inl (Z 0, 4, .inl (M.2.2.1 2)))] H := hP
        have hD : va_D AA [(A 19, .inr (6, [.long (M.2.1 1), .long 0, .int z2, .int (M.1 24), .int (M.1 25), .int (M.1 26), .int (M.1 27), .int (M.1 28)])), (A 1, .inr (5, [.ref (A 2), .ref (A 3), .ref (A 4), .ref (A 5), .int (M.1 0)])), (A 2, .inl (Z 0, 4, .inl (M.2.2.1 2)))] := hD
        have hP9 := hP.sub (ws' := [(A 19, xc19 Z A (ap_Run_readPattern M (0, (M.1 24), z2))), (A 1, xc1 Z A (ap_Run_readPattern M (0, (M.1 24), z2))), (A 2, xc2 Z A (ap_Run_readPattern M (0, (M.1 24), z2)))]) [0, 1, 2] rfl
        have hD9 := hD.sub (ws' := [(A 19, xc19 Z A (ap_Run_readPattern M (0, (M.1 24), z2))), (A 1, xc1 Z A (ap_Run_readPattern M (0, (M.1 24), z2))), (A 2, xc2 Z A (ap_Run_readPattern M (0, (M.1 24), z2)))]) [0, 1, 2] (by decide) rfl
        exact W.vret hx hb hr (fun t ht hW => ⟨⟨(0, (M.1 24), z2), rfl, (by rw [F_Run_readPattern, ← hz1, F_Run_readPattern_k1, ← hz2, F_Run_readPattern_k2, if_neg h3, if_neg h4, if_pos h5]), xE_at hP9 hK hD9 ht hW⟩, hS.F ht⟩) hS.2.2 d_Run_readPattern_48
      · refine lv_aload_n hx hb d_Run_readPattern_35 rfl (lv_at hl 1 rfl) ?_
        refine lv_iconst (v := 1) hx hb d_Run_readPattern_36 (by decide) ?_
        refine va_put (D := (dC, dI)) (ci := 6) (v := .int 1) (ty := .boolean) (C := "CentrifugeUnit$Run") (T := xF6) (N := 8) hx hb htt xin6 xT6 xTo6 xNm6 hown hK hP hD hS 0 rfl rfl 3 (by decide) (htt _ tw_202) (fun _ h9 => h9) rfl (by decide +kernel) rfl rfl (Nat.le_of_ble_eq_true rfl) d_Run_readPattern_37 (fun H locs hP hD hS => ?_)
        have hP : va_P (dC, dI) xcl [(A 19, .inr (6, [.long (M.2.1 1), .long 0, .int (M.1 23), .int 1, .int (M.1 25), .int (M.1 26), .int (M.1 27), .int (M.1 28)])), (A 1, .inr (5, [.ref (A 2), .ref (A 3), .ref (A 4), .ref (A 5), .int (M.1 0)])), (A 2, .inl (Z 0, 4, .inl (M.2.2.1 2)))] H := hP
        have hD : va_D AA [(A 19, .inr (6, [.long (M.2.1 1), .long 0, .int (M.1 23), .int 1, .int (M.1 25), .int (M.1 26), .int (M.1 27), .int (M.1 28)])), (A 1, .inr (5, [.ref (A 2), .ref (A 3), .ref (A 4), .ref (A 5), .int (M.1 0)])), (A 2, .inl (Z 0, 4, .inl (M.2.2.1 2)))] := hD
        refine lv_goto (tgt := 48) hx hb d_Run_readPattern_40 rfl ?_
        have hP9 := hP.sub (ws' := [(A 19, xc19 Z A (ap_Run_readPattern M (0, 1, (M.1 23)))), (A 1, xc1 Z A (ap_Run_readPattern M (0, 1, (M.1 23)))), (A 2, xc2 Z A (ap_Run_readPattern M (0, 1, (M.1 23))))]) [0, 1, 2] rfl
        have hD9 := hD.sub (ws' := [(A 19, xc19 Z A (ap_Run_readPattern M (0, 1, (M.1 23)))), (A 1, xc1 Z A (ap_Run_readPattern M (0, 1, (M.1 23)))), (A 2, xc2 Z A (ap_Run_readPattern M (0, 1, (M.1 23))))]) [0, 1, 2] (by decide) rfl
        exact W.vret hx hb hr (fun t ht hW => ⟨⟨(0, 1, (M.1 23)), rfl, (by rw [F_Run_readPattern, ← hz1, F_Run_readPattern_k1, ← hz2, F_Run_readPattern_k2, if_neg h3, if_neg h4, if_neg h5]), xE_at hP9 hK hD9 ht hW⟩, hS.F ht⟩) hS.2.2 d_Run_readPattern_48
