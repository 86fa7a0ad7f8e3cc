theorem xhas {M : XM} {x z : Int32} (h : ¬ z = 0) (hz : z = F_Program_has M x) (hc : (M.1 1) ≤ 12) : vp_in x 12 := by
  rw [hz, F_Program_has] at h
  rw [Int32.le_iff_toInt_le] at hc
  split at h
  · exact absurd rfl h
  · rename_i h0
    split at h
    · exact absurd rfl h
    · rename_i h1
      rw [Int32.lt_iff_toInt_lt] at h0
      rw [Int32.le_iff_toInt_le] at h1
      refine xin_of ?_ ?_ <;> simp at h0 h1 hc ⊢ <;> omega
abbrev bc_Control_takesOrders : ByteArray := prog_2_method_2_code
def y_Control_takesOrders : MethodName := ⟨"CentrifugeUnit$Control", "takesOrders", "(I)Z"⟩
theorem d_Control_takesOrders_0 : decode bc_Control_takesOrders 0 = .ok (.aload_n 0, 1) := by decide +kernel
theorem d_Control_takesOrders_1 : decode bc_Control_takesOrders 1 = .ok (.getfield 25, 3) := by decide +kernel
theorem d_Control_takesOrders_4 : decode bc_Control_takesOrders 4 = .ok (.ifCond .eq 15, 3) := by decide +kernel
theorem d_Control_takesOrders_7 : decode bc_Control_takesOrders 7 = .ok (.aload_n 0, 1) := by decide +kernel
theorem d_Control_takesOrders_8 : decode bc_Control_takesOrders 8 = .ok (.getfield 33, 3) := by decide +kernel
theorem d_Control_takesOrders_11 : decode bc_Control_takesOrders 11 = .ok (.iload_n 1, 1) := by decide +kernel
theorem d_Control_takesOrders_12 : decode bc_Control_takesOrders 12 = .ok (.if_icmp .ne 7, 3) := by decide +kernel
theorem d_Control_takesOrders_15 : decode bc_Control_takesOrders 15 = .ok (.iconst 1, 1) := by decide +kernel
theorem d_Control_takesOrders_16 : decode bc_Control_takesOrders 16 = .ok (.goto 4, 3) := by decide +kernel
theorem d_Control_takesOrders_19 : decode bc_Control_takesOrders 19 = .ok (.iconst 0, 1) := by decide +kernel
theorem d_Control_takesOrders_20 : decode bc_Control_takesOrders 20 = .ok (.ireturn, 1) := by decide +kernel
def F_Control_takesOrders (M : XM) (a1 : Int32) : Int32 := (if (M.1 12) = 0 then 0 else (if (M.1 14) = a1 then 1 else 0))
theorem f01_Control_takesOrders (M : XM) (a1 : Int32) : F_Control_takesOrders M a1 = 0 ∨ F_Control_takesOrders M a1 = 1 := by
  simp only [F_Control_takesOrders]; repeat' split
  all_goals first | exact Or.inl rfl | exact Or.inr rfl | simp
set_option maxHeartbeats 4000000 in
set_option maxRecDepth 100000 in
theorem c_Control_takesOrders (l : Launch) (dC : Nat → ClassId) (dI : Nat → Nat → Nat) (Z : Nat → ClassId) (A : Nat → Nat) (sz : Nat) (M : XM) (a1 : Int32) : Met l y_Control_takesOrders (.code y_Control_takesOrders bc_Control_takesOrders 2 (some .boolean) :: xw) ({ frames := 0, cells := 0, slots := 0, locals := 0 }) (va_Pc [.ref (A 17), .int a1] (xB (dC, dI) xcl (xty Z) sz [(A 17, xc17 Z A M)])) (k2_QcV (.int (F_Control_takesOrders M a1))) 0 0 (fun _ => False) := by
  refine Met.ofW (cc := bc_Control_takesOrders) (maxL := 2) (ret := (some .boolean)) (by decide) rfl ?_
  intro p e s m args below meth c s₁ B hml hv
  obtain ⟨rfl, hsz, hP, hK, hD0, hq⟩ := hv
  have hx := B.exec
  have hb := B.bytes
  have hr := B.returns
  have hts := atoms_spec (ws := (.code y_Control_takesOrders bc_Control_takesOrders 2 (some .boolean) :: xw)) B.pre
  have htt : ∀ w ∈ xw, w.before _ s = true := fun w h => hts w (List.mem_cons_of_mem _ h)
  have hown : s.vm.findClass "CentrifugeUnit$Control" = some m.cls := findClass_of_methodNamed B.named
  have hlocks := B.notSynchronized
  subst hsz
  have hD : va_D (fun _ => True) [(A 17, .inr (0, [.ref (A 1), .ref (A 6), .ref (A 11), .ref (A 12), .ref (A 13), .ref (A 18), .ref (A 19), .int (M.1 12), .int (M.1 13), .int (M.1 14), .int (M.1 15), .int (M.1 16), .int (M.1 17), .int (M.1 18)]))] := hD0
  have hP : va_P (dC, dI) xcl [(A 17, .inr (0, [.ref (A 1), .ref (A 6), .ref (A 11), .ref (A 12), .ref (A 13), .ref (A 18), .ref (A 19), .int (M.1 12), .int (M.1 13), .int (M.1 14), .int (M.1 15), .int (M.1 16), .int (M.1 17), .int (M.1 18)]))] s.heap := hP
  have hl := lv_entry ([.ref (A 17), .int a1]) (n := 2) (Nat.le_of_ble_eq_true rfl)
  rw [lg_entry_eq]
  generalize (lg_sl ([.ref (A 17), .int a1]) ++ List.replicate (2 - (lg_sl ([.ref (A 17), .int a1])).length) Slot.unset).toArray = ls at hl ⊢
  have hl : lv_has ls 2 [(0, .ref (A 17)), (1, .int a1)] := hl
  refine lv_aload_n hx hb d_Control_takesOrders_0 rfl (lv_at hl 0 rfl) ?_
  refine va_get (D := (dC, dI)) (ci := 0) (v := .int (M.1 12)) (C := "CentrifugeUnit$Control") (T := xF0) (N := 14) hx hb htt xin0 hown hK hP 0 rfl rfl 7 (by decide) (htt _ tw_240) (fun _ h9 => h9) rfl d_Control_takesOrders_1 ?_
  refine lv_if_eq (tgt := 19) hx hb d_Control_takesOrders_4 rfl (fun h1 => ?_) (fun h1 => ?_)
  · refine lv_iconst (v := 0) hx hb d_Control_takesOrders_19 (by decide) ?_
    exact W.zret (ty := .boolean) hx hb hr rfl (fun t ht hW => ⟨(by rw [F_Control_takesOrders, if_pos h1]), ht⟩) (fun _ h => absurd h List.not_mem_nil) d_Control_takesOrders_20
  · refine lv_aload_n hx hb d_Control_takesOrders_7 rfl (lv_at hl 0 rfl) ?_
    refine va_get (D := (dC, dI)) (ci := 0) (v := .int (M.1 14)) (C := "CentrifugeUnit$Control") (T := xF0) (N := 14) hx hb htt xin0 hown hK hP 0 rfl rfl 9 (by decide) (htt _ tw_244) (fun _ h9 => h9) rfl d_Control_takesOrders_8 ?_
    refine lv_iload_n hx hb d_Control_takesOrders_11 rfl (lv_at hl 1 rfl) ?_
    refine lv_icmp_ne (tgt := 19) hx hb d_Control_takesOrders_12 rfl (fun h2 => ?_) (fun h2 => ?_)
    · refine lv_iconst (v := 0) hx hb d_Control_takesOrders_19 (by decide) ?_
      exact W.zret (ty := .boolean) hx hb hr rfl (fun t ht hW => ⟨(by rw [F_Control_takesOrders, if_neg h1, if_neg h2]), ht⟩) (fun _ h => absurd h List.not_mem_nil) d_Control_takesOrders_20
    · refine lv_iconst (v := 1) hx hb d_Control_takesOrders_15 (by decide) ?_
      refine lv_goto (tgt := 20) hx hb d_Control_takesOrders_16 rfl ?_
      exact W.zret (ty := .boolean) hx hb hr rfl (fun t ht hW => ⟨(by rw [F_Control_takesOrders, if_neg h1, if_pos h2]), ht⟩) (fun _ h => absurd h List.not_mem_nil) d_Control_takesOrders_20
abbrev bc_Control_turning : ByteArray := prog_2_method_8_code
def y_Control_turning : MethodName := ⟨"CentrifugeUnit$Control", "turning", "()Z"⟩
theorem d_Control_turning_0 : decode bc_Control_turning 0 = .ok (.aload_n 0, 1) := by decide +kernel
theorem d_Control_turning_1 : decode bc_Control_turning 1 = .ok (.getfield 33, 3) := by decide +kernel
theorem d_Control_turning_4 : decode bc_Control_turning 4 = .ok (.iconst 1, 1) := by decide +kernel
theorem d_Control_turning_5 : decode bc_Control_turning 5 = .ok (.if_icmp .eq 11, 3) := by decide +kernel
theorem d_Control_turning_8 : decode bc_Control_turning 8 = .ok (.aload_n 0, 1) := by decide +kernel
theorem d_Control_turning_9 : decode bc_Control_turning 9 = .ok (.getfield 33, 3) := by decide +kernel
theorem d_Control_turning_12 : decode bc_Control_turning 12 = .ok (.iconst 2, 1) := by decide +kernel
theorem d_Control_turning_13 : decode bc_Control_turning 13 = .ok (.if_icmp .ne 7, 3) := by decide +kernel
theorem d_Control_turning_16 : decode bc_Control_turning 16 = .ok (.iconst 1, 1) := by decide +kernel
theorem d_Control_turning_17 : decode bc_Control_turning 17 = .ok (.goto 4, 3) := by decide +kernel
theorem d_Control_turning_20 : decode bc_Control_turning 20 = .ok (.iconst 0, 1) := by decide +kernel
theorem d_Control_turning_21 : decode bc_Control_turning 21 = .ok (.ireturn, 1) := by decide +kernel
def F_Control_turning (M : XM) : Int32 := (if (M.1 14) = 1 then 1 else (if (M.1 14) = 2 then 1 else 0))
theorem f01_Control_turning (M : XM) : F_Control_turning M = 0 ∨ F_Control_turning M = 1 := by
  simp only [F_Control_turning]; repeat' split
  all_goals first | exact Or.inl rfl | exact Or.inr rfl | simp
set_option maxHeartbeats 4000000 in
set_option maxRecDepth 100000 in
theorem c_Control_turning (l : Launch) (dC : Nat → ClassId) (dI : Nat → Nat → Nat) (Z : Nat → ClassId) (A : Nat → Nat) (sz : Nat) (M : XM) : Met l y_Control_turning (.code y_Control_turning bc_Control_turning 1 (some .boolean) :: xw) ({ frames := 0, cells := 0, slots := 0, locals := 0 }) (va_Pc [.ref (A 17)] (xB (dC, dI) xcl (xty Z) sz [(A 17, xc17 Z A M)])) (k2_QcV (.int (F_Control_turning M))) 0 0 (fun _ => False) := by
  refine Met.ofW (cc := bc_Control_turning) (maxL := 1) (ret := (some .boolean)) (by decide) rfl ?_
  intro p e s m args below meth c s₁ B hml hv
  obtain ⟨rfl, hsz, hP, hK, hD0, hq⟩ := hv
  have hx := B.exec
  have hb := B.bytes
  have hr := B.returns
  have hts := atoms_spec (ws := (.code y_Control_turning bc_Control_turning 1 (some .boolean) :: xw)) B.pre
  have htt : ∀ w ∈ xw, w.before _ s = true := fun w h => hts w (List.mem_cons_of_mem _ h)
  have hown : s.vm.findClass "CentrifugeUnit$Control" = some m.cls := findClass_of_methodNamed B.named
  have hlocks := B.notSynchronized
  subst hsz
  have hD : va_D (fun _ => True) [(A 17, .inr (0, [.ref (A 1), .ref (A 6), .ref (A 11), .ref (A 12), .ref (A 13), .ref (A 18), .ref (A 19), .int (M.1 12), .int (M.1 13), .int (M.1 14), .int (M.1 15), .int (M.1 16), .int (M.1 17), .int (M.1 18)]))] := hD0
  have hP : va_P (dC, dI) xcl [(A 17, .inr (0, [.ref (A 1), .ref (A 6), .ref (A 11), .ref (A 12), .ref (A 13), .ref (A 18), .ref (A 19), .int (M.1 12), .int (M.1 13), .int (M.1 14), .int (M.1 15), .int (M.1 16), .int (M.1 17), .int (M.1 18)]))] s.heap := hP
  have hl := lv_entry ([.ref (A 17)]) (n := 1) (Nat.le_of_ble_eq_true rfl)
  rw [lg_entry_eq]
  generalize (lg_sl ([.ref (A 17)]) ++ List.replicate (1 - (lg_sl ([.ref (A 17)])).length) Slot.unset).toArray = ls at hl ⊢
  have hl : lv_has ls 1 [(0, .ref (A 17))] := hl
  refine lv_aload_n hx hb d_Control_turning_0 rfl (lv_at hl 0 rfl) ?_
  refine va_get (D := (dC, dI)) (ci := 0) (v := .int (M.1 14)) (C := "CentrifugeUnit$Control") (T := xF0) (N := 14) hx hb htt xin0 hown hK hP 0 rfl rfl 9 (by decide) (htt _ tw_244) (fun _ h9 => h9) rfl d_Control_turning_1 ?_
  refine lv_iconst (v := 1) hx hb d_Control_turning_4 (by decide) ?_
  refine lv_icmp_eq (tgt := 16) hx hb d_Control_turning_5 rfl (fun h1 => ?_) (fun h1 => ?_)
  · refine lv_iconst (v := 1) hx hb d_Control_turning_16 (by decide) ?_
    refine lv_goto (tgt := 21) hx hb d_Control_turning_17 rfl ?_
    exact W.zret (ty := .boolean) hx hb hr rfl (fun t ht hW => ⟨(by rw [F_Control_turning, if_pos h1]), ht⟩) (fun _ h => absurd h List.not_mem_nil) d_Control_turning_21
  · refine lv_aload_n hx hb d_Control_turning_8 rfl (lv_at hl 0 rfl) ?_
    refine va_get (D := (dC, dI)) (ci := 0) (v := .int (M.1 14)) (C := "CentrifugeUnit$Control") (T := xF0) (N := 14) hx hb htt xin0 hown hK hP 0 rfl rfl 9 (by decide) (htt _ tw_244) (fun _ h9 => h9) rfl d_Control_turning_9 ?_
    refine lv_iconst (v := 2) hx hb d_Control_turning_12 (by decide) ?_
    refine lv_icmp_ne (tgt := 20) hx hb d_Control_turning_13 rfl (fun h2 => ?_) (fun h2 => ?_)
    · refine lv_iconst (v := 0) hx hb d_Control_turning_20 (by decide) ?_
      exact W.zret (ty := .boolean) hx hb hr rfl (fun t ht hW => ⟨(by rw [F_Control_turning, if_neg h1, if_neg h2]), ht⟩) (fun _ h => absurd h List.not_mem_nil) d_Control_turning_21
    · refine lv_iconst (v := 1) hx hb d_Control_turning_16 (by decide) ?_
      refine lv_goto (tgt := 21) hx hb d_Control_turning_17 rfl ?_
      exact W.zret (ty := .boolean) hx hb hr rfl (fun t ht hW => ⟨(by rw [F_Control_turning, if_neg h1, if_pos h2]), ht⟩) (fun _ h => absurd h List.not_mem_nil) d_Control_turning_21
abbrev bc_Control_beginRun : ByteArray := prog_2_method_3_code
def y_Control_beginRun : MethodName := ⟨"CentrifugeUnit$Control", "beginRun", "()V"⟩
theorem d_Control_beginRun_0 : decode bc_Control_beginRun 0 = .ok (.aload_n 0, 1) := by decide +kernel
theorem d_Control_beginRun_1 : decode bc_Control_beginRun 1 = .ok (.getfield 21, 3) := by decide +kernel
theorem d_Control_beginRun_4 : decode bc_Control_beginRun 4 = .ok (.invokevirtual 59, 3) := by decide +kernel
theorem d_Control_beginRun_7 : decode bc_Control_beginRun 7 = .ok (.aload_n 0, 1) := by decide +kernel
theorem d_Control_beginRun_8 : decode bc_Control_beginRun 8 = .ok (.iconst 0, 1) := by decide +kernel
theorem d_Control_beginRun_9 : decode bc_Control_beginRun 9 = .ok (.putfield 36, 3) := by decide +kernel
theorem d_Control_beginRun_12 : decode bc_Control_beginRun 12 = .ok (.aload_n 0, 1) := by decide +kernel
theorem d_Control_beginRun_13 : decode bc_Control_beginRun 13 = .ok (.iconst 1, 1) := by decide +kernel
theorem d_Control_beginRun_14 : decode bc_Control_beginRun 14 = .ok (.putfield 33, 3) := by decide +kernel
theorem d_Control_beginRun_17 : decode bc_Control_beginRun 17 = .ok (.return_, 1) := by decide +kernel
abbrev ap_Control_beginRun (M : XM) (u : (Int64 × Int64 × Int32 × Int32 × Int32 × Int32 × Int32 × Int32 × Int32 × Int32)) : XM := ((va_up (va_up (va_up (va_up (va_up (va_up (va_up (va_up M.1 23 (u.2.2.1)) 24 (u.2.2.2.1)) 25 (u.2.2.2.2.1)) 26 (u.2.2.2.2.2.1)) 27 (u.2.2.2.2.2.2.1)) 28 (u.2.2.2.2.2.2.2.1)) 15 (u.2.2.2.2.2.2.2.2.1)) 14 (u.2.2.2.2.2.2.2.2.2)), (va_up (va_up M.2.1 1 (u.1)) 2 (u.2.1)), M.2.2)
def F_Control_beginRun_k1 (M : XM) (u1 : (Int64 × Int64 × Int32 × Int32 × Int32 × Int32 × Int32 × Int32)) : (Int64 × Int64 × Int32 × Int32 × Int32 × Int32 × Int32 × Int32 × Int32 × Int32) := ((u1.1), (u1.2.1), (u1.2.2.1), (u1.2.2.2.1), (u1.2.2.2.2.1), (u1.2.2.2.2.2.1), (u1.2.2.2.2.2.2.1), (u1.2.2.2.2.2.2.2), 0, 1)
def F_Control_beginRun (M : XM) : (Int64 × Int64 × Int32 × Int32 × Int32 × Int32 × Int32 × Int32 × Int32 × Int32) := (F_Control_beginRun_k1 M (F_Run_begin M))
set_option maxHeartbeats 4000000 in
set_option maxRecDepth 100000 in
theorem c_Control_beginRun (l : Launch) (dC : Nat → ClassId) (dI : Nat → Nat → Nat) (Z : Nat → ClassId) (A : Nat → Nat) (sz : Nat) (M : XM) : Met l y_Control_beginRun (.code y_Control_beginRun bc_Control_beginRun 1 none :: xw) ({ frames := 1, cells := 0, slots := 0, locals := 20 }) (va_Pc [.ref (A 17)] (xB (dC, dI) xcl (xty Z) sz [(A 17, xc17 Z A M), (A 19, xc19 Z A M)])) (va_Qv (fun u : (Int64 × Int64 × Int32 × Int32 × Int32 × Int32 × Int32 × Int32 × Int32 × Int32) => u = F_Control_beginRun M) (fun u => xE (dC, dI) xcl (xty Z) (va_A [(A 17, xc17 Z A M), (A 19, xc19 Z A M)] sz) [(A 17, xc17 Z A (ap_Control_beginRun M u)), (A 19, xc19 Z A (ap_Control_beginRun M u))]) (va_A [(A 17, xc17 Z A M), (A 19, xc19 Z A M)] sz)) 0 0 (va_A [(A 17, xc17 Z A M), (A 19, xc19 Z A M)] sz) := by
  refine Met.ofW (cc := bc_Control_beginRun) (maxL := 1) (ret := none) (by decide) rfl ?_
  intro p e s m args below meth c s₁ B hml hv
  obtain ⟨rfl, hsz, hP, hK, hD0, hq⟩ := hv
  have hx := B.exec
  have hb := B.bytes
  have hr := B.returns
  have hts := atoms_spec (ws := (.code y_Control_beginRun bc_Control_beginRun 1 none :: xw)) B.pre
  have htt : ∀ w ∈ xw, w.before _ s = true := fun w h => hts w (List.mem_cons_of_mem _ h)
  have hown : s.vm.findClass "CentrifugeUnit$Control" = some m.cls := findClass_of_methodNamed B.named
  have hlocks := B.notSynchronized
  subst hsz
  have hD := hD0.self (sz := s.heap.size)
  generalize hAe : va_A [(A 17, xc17 Z A M), (A 19, xc19 Z A M)] s.heap.size = AA at hD ⊢
  have hA : ∀ q : Nat, s.heap.size ≤ q → AA q := fun q h => by rw [← hAe]; exact Or.inr h
  have hS : va_S AA s.heap s.heap [] := va_S.rf
  have hP : va_P (dC, dI) xcl [(A 17, .inr (0, [.ref (A 1), .ref (A 6), .ref (A 11), .ref (A 12), .ref (A 13), .ref (A 18), .ref (A 19), .int (M.1 12), .int (M.1 13), .int (M.1 14), .int (M.1 15), .int (M.1 16), .int (M.1 17), .int (M.1 18)])), (A 19, .inr (6, [.long (M.2.1 1), .long (M.2.1 2), .int (M.1 23), .int (M.1 24), .int (M.1 25), .int (M.1 26), .int (M.1 27), .int (M.1 28)]))] s.heap := hP
  have hD : va_D AA [(A 17, .inr (0, [.ref (A 1), .ref (A 6), .ref (A 11), .ref (A 12), .ref (A 13), .ref (A 18), .ref (A 19), .int (M.1 12), .int (M.1 13), .int (M.1 14), .int (M.1 15), .int (M.1 16), .int (M.1 17), .int (M.1 18)])), (A 19, .inr (6, [.long (M.2.1 1), .long (M.2.1 2), .int (M.1 23), .int (M.1 24), .int (M.1 25), .int (M.1 26), .int (M.1 27), .int (M.1 28)]))] := hD
  have hl := lv_entry ([.ref (A 17)]) (n := 1) (Nat.le_of_ble_eq_true rfl)
  rw [lg_entry_eq]
  generalize (lg_sl ([.ref (A 17)]) ++ List.replicate (1 - (lg_sl ([.ref (A 17)])).length) Slot.unset).toArray = ls at hl ⊢
  have hl : lv_has ls 1 [(0, .ref (A 17))] := hl
  refine lv_aload_n hx hb d_Control_beginRun_0 rfl (lv_at hl 0 rfl) ?_
  refine va_get (D := (dC, dI)) (ci := 0) (v := .ref (A 19)) (C := "CentrifugeUnit$Control") (T := xF0) (N := 14) hx hb htt xin0 hown hK hP 0 rfl rfl 6 (by decide) (htt _ tw_238) (fun _ h9 => h9) rfl d_Control_beginRun_1 ?_
  have hPc := hP.sub (ws' := [(A 19, xc19 Z A M)]) [1] rfl
  have hDc := hD.sub (ws' := [(A 19, xc19 Z A M)]) [1] (by decide) rfl
  refine xk_v (wc := [(A 19, xc19 Z A M)]) (wr := [(A 17, .inr (0, [.ref (A 1), .ref (A 6), .ref (A 11), .ref (A 12), .ref (A 13), .ref (A 18), .ref (A 19), .int (M.1 12), .int (M.1 13), .int (M.1 14), .int (M.1 15), .int (M.1 16), .int (M.1 17), .int (M.1 18)]))]) (va_runV (As := []) (rest := []) ⟨hx, hb, hml, hown, hts⟩ (c_Run_begin l dC dI Z A _ M) (cwV 0 hts (xw_V _ tw_494 tw_495 tw_496 tw_11 tw_497) rfl rfl rfl (by decide +kernel) ⟨Nat.le_of_ble_eq_true rfl, Nat.le_of_ble_eq_true rfl⟩) ⟨xB_blind, va_recv (q0 := 1) (ci := 6) hK hP rfl rfl, fun U hU hW => ⟨rfl, xB_at hPc hK hDc hq U hU hW⟩⟩ rfl rfl hl.1 rfl (lv_room (Nat.le_of_ble_eq_true rfl)) d_Control_beginRun_4 ⟨Nat.le_of_ble_eq_true rfl, Nat.le_of_ble_eq_true rfl⟩) hP hD hS hA [1] [0] rfl rfl (by decide) (by decide) (fun u1 H locs hu1 hP hD hS => ?_)
  have hP : va_P (dC, dI) xcl [(A 17, .inr (0, [.ref (A 1), .ref (A 6), .ref (A 11), .ref (A 12), .ref (A 13), .ref (A 18), .ref (A 19), .int (M.1 12), .int (M.1 13), .int (M.1 14), .int (M.1 15), .int (M.1 16), .int (M.1 17), .int (M.1 18)])), (A 19, .inr (6, [.long (u1.1), .long (u1.2.1), .int (u1.2.2.1), .int (u1.2.2.2.1), .int (u1.2.2.2.2.1), .int (u1.2.2.2.2.2.1), .int (u1.2.2.2.2.2.2.1), .int (u1.2.2.2.2.2.2.2)]))] H := hP
  have hD : va_D AA [(A 17, .inr (0, [.ref (A 1), .ref (A 6), .ref (A 11), .ref (A 12), .ref (A 13), .ref (A 18), .ref (A 19), .int (M.1 12), .int (M.1 13), .int (M.1 14), .int (M.1 15), .int (M.1 16), .int (M.1 17), .int (M.1 18)])), (A 19, .inr (6, [.long (u1.1), .long (u1.2.1), .int (u1.2.2.1), .int (u1.2.2.2.1), .int (u1.2.2.2.2.1), .int (u1.2.2.2.2.2.1), .int (u1.2.2.2.2.2.2.1), .int (u1.2.2.2.2.2.2.2)]))] := hD
  refine lv_aload_n hx hb d_Control_beginRun_7 rfl (lv_at hl 0 rfl) ?_
  refine lv_iconst (v := 0) hx hb d_Control_beginRun_8 (by decide) ?_
  refine va_put (D := (dC, dI)) (ci := 0) (v := .int 0) (ty := .int) (C := "CentrifugeUnit$Control") (T := xF0) (N := 14) hx hb htt xin0 xT0 xTo0 xNm0 hown hK hP hD hS 0 rfl rfl 10 (by decide) (htt _ tw_246) (fun _ h9 => h9) rfl (by decide +kernel) rfl rfl (Nat.le_of_ble_eq_true rfl) d_Control_beginRun_9 (fun H locs hP hD hS => ?_)
  have hP : va_P (dC, dI) xcl [(A 17, .inr (0, [.ref (A 1), .ref (A 6), .ref (A 11), .ref (A 12), .ref (A 13), .ref (A 18), .ref (A 19), .int (M.1 12), .int (M.1 13), .int (M.1 14), .int 0, .int (M.1 16), .int (M.1 17), .int (M.1 18)])), (A 19, .inr (6, [.long (u1.1), .long (u1.2.1), .int (u1.2.2.1), .int (u1.2.2.2.1), .int (u1.2.2.2.2.1), .int (u1.2.2.2.2.2.1), .int (u1.2.2.2.2.2.2.1), .int (u1.2.2.2.2.2.2.2)]))] H := hP
  have hD : va_D AA [(A 17, .inr (0, [.ref (A 1), .ref (A 6), .ref (A 11), .ref (A 12), .ref (A 13), .ref (A 18), .ref (A 19), .int (M.1 12), .int (M.1 13), .int (M.1 14), .int 0, .int (M.1 16), .int (M.1 17), .int (M.1 18)])), (A 19, .inr (6, [.long (u1.1), .long (u1.2.1), .int (u1.2.2.1), .int (u1.2.2.2.1), .int (u1.2.2.2.2.1), .int (u1.2.2.2.2.2.1), .int (u1.2.2.2.2.2.2.1), .int (u1.2.2.2.2.2.2.2)]))] := hD
  refine lv_aload_n hx hb d_Control_beginRun_12 rfl (lv_at hl 0 rfl) ?_
  refine lv_iconst (v := 1) hx hb d_Control_beginRun_13 (by decide) ?_
  refine va_put (D := (dC, dI)) (ci := 0) (v := .int 1) (ty := .int) (C := "CentrifugeUnit$Control") (T := xF0) (N := 14) hx hb htt xin0 xT0 xTo0 xNm0 hown hK hP hD hS 0 rfl rfl 9 (by decide) (htt _ tw_244) (fun _ h9 => h9) rfl (by decide +kernel) rfl rfl (Nat.le_of_ble_eq_true rfl) d_Control_beginRun_14 (fun H locs hP hD hS => ?_)
  have hP : va_P (dC, dI) xcl [(A 17, .inr (0, [.ref (A 1), .ref (A 6), .ref (A 11), .ref (A 12), .ref (A 13), .ref (A 18), .ref (A 19), .int (M.1 12), .int (M.1 13), .int 1, .int 0, .int (M.1 16), .int (M.1 17), .int (M.1 18)])), (A 19, .inr (6, [.long (u1.1), .long (u1.2.1), .int (u1.2.2.1), .int (u1.2.2.2.1), .int (u1.2.2.2.2.1), .int (u1.2.2.2.2.2.1), .int (u1.2.2.2.2.2.2.1), .int (u1.2.2.2.2.2.2.2)]))] H := hP
  have hD : va_D AA [(A 17, .inr (0, [.ref (A 1), .ref (A 6), .ref (A 11), .ref (A 12), .ref (A 13), .ref (A 18), .ref (A 19), .int (M.1 12), .int (M.1 13), .int 1, .int 0, .int (M.1 16), .int (M.1 17), .int (M.1 18)])), (A 19, .inr (6, [.long (u1.1), .long (u1.2.1), .int (u1.2.2.1), .int (u1.2.2.2.1), .int (u1.2.2.2.2.1), .int (u1.2.2.2.2.2.1), .int (u1.2.2.2.2.2.2.1), .int (u1.2.2.2.2.2.2.2)]))] := hD
  have hP9 := hP.sub (ws' := [(A 17, xc17 Z A (ap_Control_beginRun M ((u1.1), (u1.2.1), (u1.2.2.1), (u1.2.2.2.1), (u1.2.2.2.2.1), (u1.2.2.2.2.2.1), (u1.2.2.2.2.2.2.1), (u1.2.2.2.2.2.2.2), 0, 1))), (A 19, xc19 Z A (ap_Control_beginRun M ((u1.1), (u1.2.1), (u1.2.2.1), (u1.2.2.2.1), (u1.2.2.2.2.1), (u1.2.2.2.2.2.1), (u1.2.2.2.2.2.2.1), (u1.2.2.2.2.2.2.2), 0, 1)))]) [0, 1] rfl
  have hD9 := hD.sub (ws' := [(A 17, xc17 Z A (ap_Control_beginRun M ((u1.1), (u1.2.1), (u1.2.2.1), (u1.2.2.2.1), (u1.2.2.2.2.1), (u1.2.2.2.2.2.1), (u1.2.2.2.2.2.2.1), (u1.2.2.2.2.2.2.2), 0, 1))), (A 19, xc19 Z A (ap_Control_beginRun M ((u1.1), (u1.2.1), (u1.2.2.1), (u1.2.2.2.1), (u1.2.2.2.2.1), (u1.2.2.2.2.2.1), (u1.2.2.2.2.2.2.1), (u1.2.2.2.2.2.2.2), 0, 1)))]) [0, 1] (by decide) rfl
  exact W.vret hx hb hr (fun t ht hW => ⟨⟨((u1.1), (u1.2.1), (u1.2.2.1), (u1.2.2.2.1), (u1.2.2.2.2.1), (u1.2.2.2.2.2.1), (u1.2.2.2.2.2.2.1), (u1.2.2.2.2.2.2.2), 0, 1), rfl, (by rw [F_Control_beginRun, ← hu1, F_Control_beginRun_k1]), xE_at hP9 hK hD9 ht hW⟩, hS.F ht⟩) hS.2.2 d_Control_beginRun_17
abbrev bc_Control_beginStopping : ByteArray := prog_2_method_4_code
def y_Control_beginStopping : MethodName := ⟨"CentrifugeUnit$Control", "beginStopping", "(I)V"⟩
theorem d_Control_beginStopping_0 : decode bc_Control_beginStopping 0 = .ok (.aload_n 0, 1) := by decide +kernel
theorem d_Control_beginStopping_1 : decode bc_Control_beginStopping 1 = .ok (.iconst 2, 1) := by decide +kernel
theorem d_Control_beginStopping_2 : decode bc_Control_beginStopping 2 = .ok (.putfield 33, 3) := by decide +kernel
theorem d_Control_beginStopping_5 : decode bc_Control_beginStopping 5 = .ok (.aload_n 0, 1) := by decide +kernel
theorem d_Control_beginStopping_6 : decode bc_Control_beginStopping 6 = .ok (.iload_n 1, 1) := by decide +kernel
theorem d_Control_beginStopping_7 : decode bc_Control_beginStopping 7 = .ok (.putfield 36, 3) := by decide +kernel
theorem d_Control_beginStopping_10 : decode bc_Control_beginStopping 10 = .ok (.return_, 1) := by decide +kernel
abbrev ap_Control_beginStopping (M : XM) (u : (Int32 × Int32)) : XM := ((va_up (va_up M.1 14 (u.1)) 15 (u.2)), M.2)
def F_Control_beginStopping (M : XM) (a1 : Int32) : (Int32 × Int32) := (2, a1)
set_option maxHeartbeats 4000000 in
set_option maxRecDepth 100000 in
theorem c_Control_beginStopping (l : Launch) (dC : Nat → ClassId) (dI : Nat → Nat → Nat) (Z : Nat → ClassId) (A : Nat → Nat) (sz : Nat) (M : XM) (a1 : Int32) : Met l y_Control_beginStopping (.code y_Control_beginStopping bc_Control_beginStopping 2 none :: xw) ({ frames := 0, cells := 0, slots := 0, locals := 0 }) (va_Pc [.ref (A 17), .int a1] (xB (dC, dI) xcl (xty Z) sz [(A 17, xc17 Z A M)])) (va_Qv (fun u : (Int32 × Int32) => u = F_Control_beginStopping M a1) (fun u => xE (dC, dI) xcl (xty Z) (va_A [(A 17, xc17 Z A M)] sz) [(A 17, xc17 Z A (ap_Control_beginStopping M u))]) (va_A [(A 17, xc17 Z A M)] sz)) 0 0 (va_A [(A 17, xc17 Z A M)] sz) := by
  refine Met.ofW (cc := bc_Control_beginStopping) (maxL := 2) (ret := none) (by decide) rfl ?_
  intro p e s m args below meth c s₁ B hml hv
  obtain ⟨rfl, hsz, hP, hK, hD0, hq⟩ := hv
  have hx := B.exec
  have hb := B.bytes
  have hr := B.returns
  have hts := atoms_spec (ws := (.code y_Control_beginStopping bc_Control_beginStopping 2 none :: xw)) B.pre
  have htt : ∀ w ∈ xw, w.before _ s = true := fun w h => hts w (List.mem_cons_of_mem _ h)
  have hown : s.vm.findClass "CentrifugeUnit$Control" = some m.cls := findClass_of_methodNamed B.named
  have hlocks := B.notSynchronized
  subst hsz
  have hD := hD0.self (sz := s.heap.size)
  generalize hAe : va_A [(A 17, xc17 Z A M)] s.heap.size = AA at hD ⊢
  have hA : ∀ q : Nat, s.heap.size ≤ q → AA q := fun q h => by rw [← hAe]; exact Or.inr h
  have hS : va_S AA s.heap s.heap [] := va_S.rf
  have hP : va_P (dC, dI) xcl [(A 17, .inr (0, [.ref (A 1), .ref (A 6), .ref (A 11), .ref (A 12), .ref (A 13), .ref (A 18), .ref (A 19), .int (M.1 12), .int (M.1 13), .int (M.1 14), .int (M.1 15), .int (M.1 16), .int (M.1 17), .int (M.1 18)]))] s.heap := hP
  have hD : va_D AA [(A 17, .inr (0, [.ref (A 1), .ref (A 6), .ref (A 11), .ref (A 12), .ref (A 13), .ref (A 18), .ref (A 19), .int (M.1 12), .int (M.1 13), .int (M.1 14), .int (M.1 15), .int (M.1 16), .int (M.1 17), .int (M.1 18)]))] := hD
  have hl := lv_entry ([.ref (A 17), .int a1]) (n := 2) (Nat.le_of_ble_eq_true rfl)
  rw [lg_entry_eq]
  generalize (lg_sl ([.ref (A 17), .int a1]) ++ List.replicate (2 - (lg_sl ([.ref (A 17), .int a1])).length) Slot.unset).toArray = ls at hl ⊢
  have hl : lv_has ls 2 [(0, .ref (A 17)), (1, .int a1)] := hl
  refine lv_aload_n hx hb d_Control_beginStopping_0 rfl (lv_at hl 0 rfl) ?_
  refine lv_iconst (v := 2) hx hb d_Control_beginStopping_1 (by decide) ?_
  refine va_put (D := (dC, dI)) (ci := 0) (v := .int 2) (ty := .int) (C := "CentrifugeUnit$Control") (T := xF0) (N := 14) hx hb htt xin0 xT0 xTo0 xNm0 hown hK hP hD hS 0 rfl rfl 9 (by decide) (htt _ tw_244) (fun _ h9 => h9) rfl (by decide +kernel) rfl rfl (Nat.le_of_ble_eq_true rfl) d_Control_beginStopping_2 (fun H locs hP hD hS => ?_)
  have hP : va_P (dC, dI) xcl [(A 17, .inr (0, [.ref (A 1), .ref (A 6), .ref (A 11), .ref (A 12), .ref (A 13), .ref (A 18), .ref (A 19), .int (M.1 12), .int (M.1 13), .int 2, .int (M.1 15), .int (M.1 16), .int (M.1 17), .int (M.1 18)]))] H := hP
  have hD : va_D AA [(A 17, .inr (0, [.ref (A 1), .ref (A 6), .ref (A 11), .ref (A 12), .ref (A 13), .ref (A 18), .ref (A 19), .int (M.1 12), .int (M.1 13), .int 2, .int (M.1 15), .int (M.1 16), .int (M.1 17), .int (M.1 18)]))] := hD
  refine lv_aload_n hx hb d_Control_beginStopping_5 rfl (lv_at hl 0 rfl) ?_
  refine lv_iload_n hx hb d_Control_beginStopping_6 rfl (lv_at hl 1 rfl) ?_
  refine va_put (D := (dC, dI)) (ci := 0) (v := .int a1) (ty := .int) (C := "CentrifugeUnit$Control") (T := xF0) (N := 14) hx hb htt xin0 xT0 xTo0 xNm0 hown hK hP hD hS 0 rfl rfl 10 (by decide) (htt _ tw_246) (fun _ h9 => h9) rfl (by decide +kernel) rfl rfl (Nat.le_of_ble_eq_true rfl) d_Control_beginStopping_7 (fun H locs hP hD hS => ?_)
  have hP : va_P (dC, dI) xcl [(A 17, .inr (0, [.ref (A 1), .ref (A 6), .ref (A 11), .ref (A 12), .ref (A 13), .ref (A 18), .ref (A 19), .int (M.1 12), .int (M.1 13), .int 2, .int a1, .int (M.1 16), .int (M.1 17), .int (M.1 18)]))] H := hP
  have hD : va_D AA [(A 17, .inr (0, [.ref (A 1), .ref (A 6), .ref (A 11), .ref (A 12), .ref (A 13), .ref (A 18), .ref (A 19), .int (M.1 12), .int (M.1 13), .int 2, .int a1, .int (M.1 16), .int (M.1 17), .int (M.1 18)]))] := hD
  have hP9 := hP.sub (ws' := [(A 17, xc17 Z A (ap_Control_beginStopping M (2, a1)))]) [0] rfl
  have hD9 := hD.sub (ws' := [(A 17, xc17 Z A (ap_Control_beginStopping M (2, a1)))]) [0] (by decide) rfl
  exact W.vret hx hb hr (fun t ht hW => ⟨⟨(2, a1), rfl, (by rw [F_Control_beginStopping]), xE_at hP9 hK hD9 ht hW⟩, hS.F ht⟩) hS.2.2 d_Control_beginStopping_10
abbrev bc_Control_powerGoes : ByteArray := prog_2_method_5_code
def y_Control_powerGoes : MethodName := ⟨"CentrifugeUnit$Control", "powerGoes", "()V"⟩
theorem d_Control_powerGoes_0 : decode bc_Control_powerGoes 0 = .ok (.aload_n 0, 1) := by decide +kernel
theorem d_Control_powerGoes_1 : decode bc_Control_powerGoes 1 = .ok (.iconst 0, 1) := by decide +kernel
theorem d_Control_powerGoes_2 : decode bc_Control_powerGoes 2 = .ok (.putfield 25, 3) := by decide +kernel
theorem d_Control_powerGoes_5 : decode bc_Control_powerGoes 5 = .ok (.aload_n 0, 1) := by decide +kernel
theorem d_Control_powerGoes_6 : decode bc_Control_powerGoes 6 = .ok (.getfield 12, 3) := by decide +kernel
theorem d_Control_powerGoes_9 : decode bc_Control_powerGoes 9 = .ok (.invokevirtual 62, 3) := by decide +kernel
theorem d_Control_powerGoes_12 : decode bc_Control_powerGoes 12 = .ok (.return_, 1) := by decide +kernel
abbrev ap_Control_powerGoes (M : XM) (u : (Int32 × Int32 × Int32 × Int32)) : XM := ((va_up (va_up (va_up (va_up M.1 12 (u.1)) 20 (u.2.1)) 21 (u.2.2.1)) 22 (u.2.2.2)), M.2)
def F_Control_powerGoes_k1 (M : XM) (u1 : (Int32 × Int32 × Int32)) : (Int32 × Int32 × Int32 × Int32) := (0, (u1.1), (u1.2.1), (u1.2.2))
def F_Control_powerGoes (M : XM) : (Int32 × Int32 × Int32 × Int32) := (F_Control_powerGoes_k1 M (F_Watch_forget M))
set_option maxHeartbeats 4000000 in
set_option maxRecDepth 100000 in
theorem c_Control_powerGoes (l : Launch) (dC : Nat → ClassId) (dI : Nat → Nat → Nat) (Z : Nat → ClassId) (A : Nat → Nat) (sz : Nat) (M : XM) : Met l y_Control_powerGoes (.code y_Control_powerGoes bc_Control_powerGoes 1 none :: xw) ({ frames := 1, cells := 0, slots := 0, locals := 20 }) (va_Pc [.ref (A 17)] (xB (dC, dI) xcl (xty Z) sz [(A 17, xc17 Z A M), (A 18, xc18 Z A M)])) (va_Qv (fun u : (Int32 × Int32 × Int32 × Int32) => u = F_Control_powerGoes M) (fun u => xE (dC, dI) xcl (xty Z) (va_A [(A 17, xc17 Z A M), (A 18, xc18 Z A M)] sz) [(A 17, xc17 Z A (ap_Control_powerGoes M u)), (A 18, xc18 Z A (ap_Control_powerGoes M u))]) (va_A [(A 17, xc17 Z A M), (A 18, xc18 Z A M)] sz)) 0 0 (va_A [(A 17, xc17 Z A M), (A 18, xc18 Z A M)] sz) := by
  refine Met.ofW (cc := bc_Control_powerGoes) (maxL := 1) (ret := none) (by decide) rfl ?_
  intro p e s m args below meth c s₁ B hml hv
  obtain ⟨rfl, hsz, hP, hK, hD0, hq⟩ := hv
  have hx := B.exec
  have hb := B.bytes
  have hr := B.returns
  have hts := atoms_spec (ws := (.code y_Control_powerGoes bc_Control_powerGoes 1 none :: xw)) B.pre
  have htt : ∀ w ∈ xw, w.before _ s = true := fun w h => hts w (List.mem_cons_of_mem _ h)
  have hown : s.vm.findClass "CentrifugeUnit$Control" = some m.cls := findClass_of_methodNamed B.named
  have hlocks := B.notSynchronized
  subst hsz
  have hD := hD0.self (sz := s.heap.size)
  generalize hAe : va_A [(A 17, xc17 Z A M), (A 18, xc18 Z A M)] s.heap.size = AA at hD ⊢
  have hA : ∀ q : Nat, s.heap.size ≤ q → AA q := fun q h => by rw [← hAe]; exact Or.inr h
  have hS : va_S AA s.heap s.heap [] := va_S.rf
  have hP : va_P (dC, dI) xcl [(A 17, .inr (0, [.ref (A 1), .ref (A 6), .ref (A 11), .ref (A 12), .ref (A 13), .ref (A 18), .ref (A 19), .int (M.1 12), .int (M.1 13), .int (M.1 14), .int (M.1 15), .int (M.1 16), .int (M.1 17), .int (M.1 18)])), (A 18, .inr (8, [.int (M.1 19), .int (M.1 20), .int (M.1 21), .int (M.1 22)]))] s.heap := hP
  have hD : va_D AA [(A 17, .inr (0, [.ref (A 1), .ref (A 6), .ref (A 11), .ref (A 12), .ref (A 13), .ref (A 18), .ref (A 19), .int (M.1 12), .int (M.1 13), .int (M.1 14), .int (M.1 15), .int (M.1 16), .int (M.1 17), .int (M.1 18)])), (A 18, .inr (8, [.int (M.1 19), .int (M.1 20), .int (M.1 21), .int (M.1 22)]))] := hD
  have hl := lv_entry ([.ref (A 17)]) (n := 1) (Nat.le_of_ble_eq_true rfl)
  rw [lg_entry_eq]
  generalize (lg_sl ([.ref (A 17)]) ++ List.replicate (1 - (lg_sl ([.ref (A 17)])).length) Slot.unset).toArray = ls at hl ⊢
  have hl : lv_has ls 1 [(0, .ref (A 17))] := hl
  refine lv_aload_n hx hb d_Control_powerGoes_0 rfl (lv_at hl 0 rfl) ?_
  refine lv_iconst (v := 0) hx hb d_Control_powerGoes_1 (by decide) ?_
  refine va_put (D := (dC, dI)) (ci := 0) (v := .int 0) (ty := .boolean) (C := "CentrifugeUnit$Control") (T := xF0) (N := 14) hx hb htt xin0 xT0 xTo0 xNm0 hown hK hP hD hS 0 rfl rfl 7 (by decide) (htt _ tw_240) (fun _ h9 => h9) rfl (by decide +kernel) rfl rfl (Nat.le_of_ble_eq_true rfl) d_Control_powerGoes_2 (fun H locs hP hD hS => ?_)
  have hP : va_P (dC, dI) xcl [(A 17, .inr (0, [.ref (A 1), .ref (A 6), .ref (A 11), .ref (A 12), .ref (A 13), .ref (A 18), .ref (A 19), .int 0, .int (M.1 13), .int (M.1 14), .int (M.1 15), .int (M.1 16), .int (M.1 17), .int (M.1 18)])), (A 18, .inr (8, [.int (M.1 19), .int (M.1 20), .int (M.1 21), .int (M.1 22)]))] H := hP
  have hD : va_D AA [(A 17, .inr (0, [.ref (A 1), .ref (A 6), .ref (A 11), .ref (A 12), .ref (A 13), .ref (A 18), .ref (A 19), .int 0, .int (M.1 13), .int (M.1 14), .int (M.1 15), .int (M.1 16), .int (M.1 17), .int (M.1 18)])), (A 18, .inr (8, [.int (M.1 19), .int (M.1 20), .int (M.1 21), .int (M.1 22)]))] := hD
  refine lv_aload_n hx hb d_Control_powerGoes_5 rfl (lv_at hl 0 rfl) ?_
  refine va_get (D := (dC, dI)) (ci := 0) (v := .ref (A 18)) (C := "CentrifugeUnit$Control") (T := xF0) (N := 14) hx hb htt xin0 hown hK hP 0 rfl rfl 5 (by decide) (htt _ tw_236) (fun _ h9 => h9) rfl d_Control_powerGoes_6 ?_
  have hPc := hP.sub (ws' := [(A 18, xc18 Z A M)]) [1] rfl
  have hDc := hD.sub (ws' := [(A 18, xc18 Z A M)]) [1] (by decide) rfl
  refine xk_v (wc := [(A 18, xc18 Z A M)]) (wr := [(A 17, .inr (0, [.ref (A 1), .ref (A 6), .ref (A 11), .ref (A 12), .ref (A 13), .ref (A 18), .ref (A 19), .int 0, .int (M.1 13), .int (M.1 14), .int (M.1 15), .int (M.1 16), .int (M.1 17), .int (M.1 18)]))]) (va_runV (As := []) (rest := []) ⟨hx, hb, hml, hown, hts⟩ (c_Watch_forget l dC dI Z A _ M) (cwV 0 hts (xw_V _ tw_565 tw_566 tw_567 tw_10 tw_568) rfl rfl rfl (by decide +kernel) ⟨Nat.le_of_ble_eq_true rfl, Nat.le_of_ble_eq_true rfl⟩) ⟨xB_blind, va_recv (q0 := 1) (ci := 8) hK hP rfl rfl, fun U hU hW => ⟨rfl, xB_at hPc hK hDc hq U hU hW⟩⟩ rfl rfl hl.1 rfl (lv_room (Nat.le_of_ble_eq_true rfl)) d_Control_powerGoes_9 ⟨Nat.le_of_ble_eq_true rfl, Nat.le_of_ble_eq_true rfl⟩) hP hD hS hA [1] [0] rfl rfl (by decide) (by decide) (fun u1 H locs hu1 hP hD hS => ?_)
  have hP : va_P (dC, dI) xcl [(A 17, .inr (0, [.ref (A 1), .ref (A 6), .ref (A 11), .ref (A 12), .ref (A 13), .ref (A 18), .ref (A 19), .int 0, .int (M.1 13), .int (M.1 14), .int (M.1 15), .int (M.1 16), .int (M.1 17), .int (M.1 18)])), (A 18, .inr (8, [.int (M.1 19), .int (u1.1), .int (u1.2.1), .int (u1.2.2)]))] H := hP
  have hD : va_D AA [(A 17, .inr (0, [.ref (A 1), .ref (A 6), .ref (A 11), .ref (A 12), .ref (A 13), .ref (A 18), .ref (A 19), .int 0, .int (M.1 13), .int (M.1 14), .int (M.1 15), .int (M.1 16), .int (M.1 17), .int (M.1 18)])), (A 18, .inr (8, [.int (M.1 19), .int (u1.1), .int (u1.2.1), .int (u1.2.2)]))] := hD
  have hP9 := hP.sub (ws' := [(A 17, xc17 Z A (ap_Control_powerGoes M (0, (u1.1), (u1.2.1), (u1.2.2)))), (A 18, xc18 Z A (ap_Control_powerGoes M (0, (u1.1), (u1.2.1), (u1.2.2))))]) [0, 1] rfl
  have hD9 := hD.sub (ws' := [(A 17, xc17 Z A (ap_Control_powerGoes M (0, (u1.1), (u1.2.1), (u1.2.2)))), (A 18, xc18 Z A (ap_Control_powerGoes M (0, (u1.1), (u1.2.1), (u1.2.2))))]) [0, 1] (by decide) rfl
  exact W.vret hx hb hr (fun t ht hW => ⟨⟨(0, (u1.1), (u1.2.1), (u1.2.2)), rfl, (by rw [F_Control_powerGoes, ← hu1, F_Control_powerGoes_k1]), xE_at hP9 hK hD9 ht hW⟩, hS.F ht⟩) hS.2.2 d_Control_powerGoes_12
abbrev bc_Control_powerComes : ByteArray := prog_2_method_6_code
def y_Control_powerComes : MethodName := ⟨"CentrifugeUnit$Control", "powerComes", "()V"⟩
theorem d_Control_powerComes_0 : decode bc_Control_powerComes 0 = .ok (.aload_n 0, 1) := by decide +kernel
theorem d_Control_powerComes_1 : decode bc_Control_powerComes 1 = .ok (.iconst 1, 1) := by decide +kernel
theorem d_Control_powerComes_2 : decode bc_Control_powerComes 2 = .ok (.putfield 25, 3) := by decide +kernel
theorem d_Control_powerComes_5 : decode bc_Control_powerComes 5 = .ok (.aload_n 0, 1) := by decide +kernel
theorem d_Control_powerComes_6 : decode bc_Control_powerComes 6 = .ok (.getfield 12, 3) := by decide +kernel
theorem d_Control_powerComes_9 : decode bc_Control_powerComes 9 = .ok (.invokevirtual 62, 3) := by decide +kernel
theorem d_Control_powerComes_12 : decode bc_Control_powerComes 12 = .ok (.aload_n 0, 1) := by decide +kernel
theorem d_Control_powerComes_13 : decode bc_Control_powerComes 13 = .ok (.getfield 33, 3) := by decide +kernel
theorem d_Control_powerComes_16 : decode bc_Control_powerComes 16 = .ok (.ifCond .eq 14, 3) := by decide +kernel
theorem d_Control_powerComes_19 : decode bc_Control_powerComes 19 = .ok (.aload_n 0, 1) := by decide +kernel
theorem d_Control_powerComes_20 : decode bc_Control_powerComes 20 = .ok (.iconst 3, 1) := by decide +kernel
theorem d_Control_powerComes_21 : decode bc_Control_powerComes 21 = .ok (.putfield 33, 3) := by decide +kernel
theorem d_Control_powerComes_24 : decode bc_Control_powerComes 24 = .ok (.aload_n 0, 1) := by decide +kernel
theorem d_Control_powerComes_25 : decode bc_Control_powerComes 25 = .ok (.bipush 12, 2) := by decide +kernel
theorem d_Control_powerComes_27 : decode bc_Control_powerComes 27 = .ok (.putfield 36, 3) := by decide +kernel
theorem d_Control_powerComes_30 : decode bc_Control_powerComes 30 = .ok (.return_, 1) := by decide +kernel
abbrev ap_Control_powerComes (M : XM) (u : (Int32 × Int32 × Int32 × Int32 × Int32 × Int32)) : XM := ((va_up (va_up (va_up (va_up (va_up (va_up M.1 12 (u.1)) 20 (u.2.1)) 21 (u.2.2.1)) 22 (u.2.2.2.1)) 14 (u.2.2.2.2.1)) 15 (u.2.2.2.2.2)), M.2)
def F_Control_powerComes_k1 (M : XM) (u1 : (Int32 × Int32 × Int32)) : (Int32 × Int32 × Int32 × Int32 × Int32 × Int32) := (if (M.1 14) = 0 then (1, (u1.1), (u1.2.1), (u1.2.2), (M.1 14), (M.1 15)) else (1, (u1.1), (u1.2.1), (u1.2.2), 3, 12))
def F_Control_powerComes (M : XM) : (Int32 × Int32 × Int32 × Int32 × Int32 × Int32) := (F_Control_powerComes_k1 M (F_Watch_forget M))
set_option maxHeartbeats 4000000 in
set_option maxRecDepth 100000 in
theorem c_Control_powerComes (l : Launch) (dC : Nat → ClassId) (dI : Nat → Nat → Nat) (Z : Nat → ClassId) (A : Nat → Nat) (sz : Nat) (M : XM) : Met l y_Control_powerComes (.code y_Control_powerComes bc_Control_powerComes 1 none :: xw) ({ frames := 1, cells := 0, slots := 0, locals := 20 }) (va_Pc [.ref (A 17)] (xB (dC, dI) xcl (xty Z) sz [(A 17, xc17 Z A M), (A 18, xc18 Z A M)])) (va_Qv (fun u : (Int32 × Int32 × Int32 × Int32 × Int32 × Int32) => u = F_Control_powerComes M) (fun u => xE (dC, dI) xcl (xty Z) (va_A [(A 17, xc17 Z A M), (A 18, xc18 Z A M)] sz) [(A 17, xc17 Z A (ap_Control_powerComes M u)), (A 18, xc18 Z A (ap_Control_powerComes M u))]) (va_A [(A 17, xc17 Z A M), (A 18, xc18 Z A M)] sz)) 0 0 (va_A [(A 17, xc17 Z A M), (A 18, xc18 Z A M)] sz) := by
  refine Met.ofW (cc := bc_Control_powerComes) (maxL := 1) (ret := none) (by decide) rfl ?_
  intro p e s m args below meth c s₁ B hml hv
  obtain ⟨rfl, hsz, hP, hK, hD0, hq⟩ := hv
  have hx := B.exec
  have hb := B.bytes
  have hr := B.returns
  have hts := atoms_spec (ws := (.code y_Control_powerComes bc_Control_powerComes 1 none :: xw)) B.pre
  have htt : ∀ w ∈ xw, w.before _ s = true := fun w h => hts w (List.mem_cons_of_mem _ h)
  have hown : s.vm.findClass "CentrifugeUnit$Control" = some m.cls := findClass_of_methodNamed B.named
  have hlocks := B.notSynchronized
  subst hsz
  have hD := hD0.self (sz := s.heap.size)
  generalize hAe : va_A [(A 17, xc17 Z A M), (A 18, xc18 Z A M)] s.heap.size = AA at hD ⊢
  have hA : ∀ q : Nat, s.heap.size ≤ q → AA q := fun q h => by rw [← hAe]; exact Or.inr h
  have hS : va_S AA s.heap s.heap [] := va_S.rf
  have hP : va_P (dC, dI) xcl [(A 17, .inr (0, [.ref (A 1), .ref (A 6), .ref (A 11), .ref (A 12), .ref (A 13), .ref (A 18), .ref (A 19), .int (M.1 12), .int (M.1 13), .int (M.1 14), .int (M.1 15), .int (M.1 16), .int (M.1 17), .int (M.1 18)])), (A 18, .inr (8, [.int (M.1 19), .int (M.1 20), .int (M.1 21), .int (M.1 22)]))] s.heap := hP
  have hD : va_D AA [(A 17, .inr (0, [.ref (A 1), .ref (A 6), .ref (A 11), .ref (A 12), .ref (A 13), .ref (A 18), .ref (A 19), .int (M.1 12), .int (M.1 13), .int (M.1 14), .int (M.1 15), .int (M.1 16), .int (M.1 17), .int (M.1 18)])), (A 18, .inr (8, [.int (M.1 19), .int (M.1 20), .int (M.1 21), .int (M.1 22)]))] := hD
  have hl := lv_entry ([.ref (A 17)]) (n := 1) (Nat.le_of_ble_eq_true rfl)
  rw [lg_entry_eq]
  generalize (lg_sl ([.ref (A 17)]) ++ List.replicate (1 - (lg_sl ([.ref (A 17)])).length) Slot.unset).toArray = ls at hl ⊢
  have hl : lv_has ls 1 [(0, .ref (A 17))] := hl
  refine lv_aload_n hx hb d_Control_powerComes_0 rfl (lv_at hl 0 rfl) ?_
  refine lv_iconst (v := 1) hx hb d_Control_powerComes_1 (by decide) ?_
  refine va_put (D := (dC, dI)) (ci := 0) (v := .int 1) (ty := .boolean) (C := "CentrifugeUnit$Control") (T := xF0) (N := 14) hx hb htt xin0 xT0 xTo0 xNm0 hown hK hP hD hS 0 rfl rfl 7 (by decide) (htt _ tw_240) (fun _ h9 => h9) rfl (by decide +kernel) rfl rfl (Nat.le_of_ble_eq_true rfl) d_Control_powerComes_2 (fun H locs hP hD hS => ?_)
  have hP : va_P (dC, dI) xcl [(A 17, .inr (0, [.ref (A 1), .ref (A 6), .ref (A 11), .ref (A 12), .ref (A 13), .ref (A 18), .ref (A 19), .int 1, .int (M.1 13), .int (M.1 14), .int (M.1 15), .int (M.1 16), .int (M.1 17), .int (M.1 18)])), (A 18, .inr (8, [.int (M.1 19), .int (M.1 20), .int (M.1 21), .int (M.1 22)]))] H := hP
  have hD : va_D AA [(A 17, .inr (0, [.ref (A 1), .ref (A 6), .ref (A 11), .ref (A 12), .ref (A 13), .ref (A 18), .ref (A 19), .int 1, .int (M.1 13), .int (M.1 14), .int (M.1 15), .int (M.1 16), .int (M.1 17), .int (M.1 18)])), (A 18, .inr (8, [.int (M.1 19), .int (M.1 20), .int (M.1 21), .int (M.1 22)]))] := hD
  refine lv_aload_n hx hb d_Control_powerComes_5 rfl (lv_at hl 0 rfl) ?_
  refine va_get (D := (dC, dI)) (ci := 0) (v := .ref (A 18)) (C := "CentrifugeUnit$Control") (T := xF0) (N := 14) hx hb htt xin0 hown hK hP 0 rfl rfl 5 (by decide) (htt _ tw_236) (fun _ h9 => h9) rfl d_Control_powerComes_6 ?_
  have hPc := hP.sub (ws' := [(A 18, xc18 Z A M)]) [1] rfl
  have hDc := hD.sub (ws' := [(A 18, xc18 Z A M)]) [1] (by decide) rfl
  refine xk_v (wc := [(A 18, xc18 Z A M)]) (wr := [(A 17, .inr (0, [.ref (A 1), .ref (A 6), .ref (A 11), .ref (A 12), .ref (A 13), .ref (A 18), .ref (A 19), .int 1, .int (M.1 13), .int (M.1 14), .int (M.1 15), .int (M.1 16), .int (M.1 17), .int (M.1 18)]))]) (va_runV (As := []) (rest := []) ⟨hx, hb, hml, hown, hts⟩ (c_Watch_forget l dC dI Z A _ M) (cwV 0 hts (xw_V _ tw_565 tw_566 tw_567 tw_10 tw_568) rfl rfl rfl (by decide +kernel) ⟨Nat.le_of_ble_eq_true rfl, Nat.le_of_ble_eq_true rfl⟩) ⟨xB_blind, va_recv (q0 := 1) (ci := 8) hK hP rfl rfl, fun U hU hW => ⟨rfl, xB_at hPc hK hDc hq U hU hW⟩⟩ rfl rfl hl.1 rfl (lv_room (Nat.le_of_ble_eq_true rfl)) d_Control_powerComes_9 ⟨Nat.le_of_ble_eq_true rfl, Nat.le_of_ble_eq_true rfl⟩) hP hD hS hA [1] [0] rfl rfl (by decide) (by decide) (fun u1 H locs hu1 hP hD hS => ?_)
  have hP : va_P (dC, dI) xcl [(A 17, .inr (0, [.ref (A 1), .ref (A 6), .ref (A 11), .ref (A 12), .ref (A 13), .ref (A 18), .ref (A 19), .int 1, .int (M.1 13), .int (M.1 14), .int (M.1 15), .int (M.1 16), .int (M.1 17), .int (M.1 18)])), (A 18, .inr (8, [.int (M.1 19), .int (u1.1), .int (u1.2.1), .int (u1.2.2)]))] H := hP
  have hD : va_D AA [(A 17, .inr (0, [.ref (A 1), .ref (A 6), .ref (A 11), .ref (A 12), .ref (A 13), .ref (A 18), .ref (A 19), .int 1, .int (M.1 13), .int (M.1 14), .int (M.1 15), .int (M.1 16), .int (M.1 17), .int (M.1 18)])), (A 18, .inr (8, [.int (M.1 19), .int (u1.1), .int (u1.2.1), .int (u1.2.2)]))] := hD
  refine lv_aload_n hx hb d_Control_powerComes_12 rfl (lv_at hl 0 rfl) ?_
  refine va_get (D := (dC, dI)) (ci := 0) (v := .int (M.1 14)) (C := "CentrifugeUnit$Control") (T := xF0) (N := 14) hx hb htt xin0 hown hK hP 0 rfl rfl 9 (by decide) (htt _ tw_244) (fun _ h9 => h9) rfl d_Control_powerComes_13 ?_
  refine lv_if_eq (tgt := 30) hx hb d_Control_powerComes_16 rfl (fun h2 => ?_) (fun h2 => ?_)
  · have hP9 := hP.sub (ws' := [(A 17, xc17 Z A (ap_Control_powerComes M (1, (u1.1), (u1.2.1), (u1.2.2), (M.1 14), (M.1 15)))), (A 18, xc18 Z A (ap_Control_powerComes M (1, (u1.1), (u1.2.1), (u1.2.2), (M.1 14), (M.1 15))))]) [0, 1] rfl
    have hD9 := hD.sub (ws' := [(A 17, xc17 Z A (ap_Control_powerComes M (1, (u1.1), (u1.2.1), (u1.2.2), (M.1 14), (M.1 15)))), (A 18, xc18 Z A (ap_Control_powerComes M (1, (u1.1), (u1.2.1), (u1.2.2), (M.1 14), (M.1 15))))]) [0, 1] (by decide) rfl
    exact W.vret hx hb hr (fun t ht hW => ⟨⟨(1, (u1.1), (u1.2.1), (u1.2.2), (M.1 14), (M.1 15)), rfl, (by rw [F_Control_powerComes, ← hu1, F_Control_powerComes_k1, if_pos h2]), xE_at hP9 hK hD9 ht hW⟩, hS.F ht⟩) hS.2.2 d_Control_powerComes_30
  · refine lv_aload_n hx hb d_Control_powerComes_19 rfl (lv_at hl 0 rfl) ?_
    refine lv_iconst (v := 3) hx hb d_Control_powerComes_20 (by decide) ?_
    refine va_put (D := (dC, dI)) (ci := 0) (v := .int 3) (ty := .int) (C := "CentrifugeUnit$Control") (T := xF0) (N := 14) hx hb htt xin0 xT0 xTo0 xNm0 hown hK hP hD hS 0 rfl rfl 9 (by decide) (htt _ tw_244) (fun _ h9 => h9) rfl (by decide +kernel) rfl rfl (Nat.le_of_ble_eq_true rfl) d_Control_powerComes_21 (fun H locs hP hD hS => ?_)
    have hP : va_P (dC, dI) xcl [(A 17, .inr (0, [.ref (A 1), .ref (A 6), .ref (A 11), .ref (A 12), .ref (A 13), .ref (A 18), .ref (A 19), .int 1, .int (M.1 13), .int 3, .int (M.1 15), .int (M.1 16), .int (M.1 17), .int (M.1 18)])), (A 18, .inr (8, [.int (M.1 19), .int (u1.1), .int (u1.2.1), .int (u1.2.2)]))] H := hP
    have hD : va_D AA [(A 17, .inr (0, [.ref (A 1), .ref (A 6), .ref (A 11), .ref (A 12), .ref (A 13), .ref (A 18), .ref (A 19), .int 1, .int (M.1 13), .int 3, .int (M.1 15), .int (M.1 16), .int (M.1 17), .int (M.1 18)])), (A 18, .inr (8, [.int (M.1 19), .int (u1.1), .int (u1.2.1), .int (u1.2.2)]))] := hD
    refine lv_aload_n hx hb d_Control_powerComes_24 rfl (lv_at hl 0 rfl) ?_
    refine lv_bipush (v := 12) hx hb d_Control_powerComes_25 (by decide) ?_
    refine va_put (D := (dC, dI)) (ci := 0) (v := .int 12) (ty := .int) (C := "CentrifugeUnit$Control") (T := xF0) (N := 14) hx hb htt xin0 xT0 xTo0 xNm0 hown hK hP hD hS 0 rfl rfl 10 (by decide) (htt _ tw_246) (fun _ h9 => h9) rfl (by decide +kernel) rfl rfl (Nat.le_of_ble_eq_true rfl) d_Control_powerComes_27 (fun H locs hP hD hS => ?_)
    have hP : va_P (dC, dI) xcl [(A 17, .inr (0, [.ref (A 1), .ref (A 6), .ref (A 11), .ref (A 12), .ref (A 13), .ref (A 18), .ref (A 19), .int 1, .int (M.1 13), .int 3, .int 12, .int (M.1 16), .int (M.1 17), .int (M.1 18)])), (A 18, .inr (8, [.int (M.1 19), .int (u1.1), .int (u1.2.1), .int (u1.2.2)]))] H := hP
    have hD : va_D AA [(A 17, .inr (0, [.ref (A 1), .ref (A 6), .ref (A 11), .ref (A 12), .ref (A 13), .ref (A 18), .ref (A 19), .int 1, .int (M.1 13), .int 3, .int 12, .int (M.1 16), .int (M.1 17), .int (M.1 18)])), (A 18, .inr (8, [.int (M.1 19), .int (u1.1), .int (u1.2.1), .int (u1.2.2)]))] := hD
    have hP9 := hP.sub (ws' := [(A 17, xc17 Z A (ap_Control_powerComes M (1, (u1.1), (u1.2.1), (u1.2.2), 3, 12))), (A 18, xc18 Z A (ap_Control_powerComes M (1, (u1.1), (u1.2.1), (u1.2.2), 3, 12)))]) [0, 1] rfl
    have hD9 := hD.sub (ws' := [(A 17, xc17 Z A (ap_Control_powerComes M (1, (u1.1), (u1.2.1), (u1.2.2), 3, 12))), (A 18, xc18 Z A (ap_Control_powerComes M (1, (u1.1), (u1.2.1), (u1.2.2), 3, 12)))]) [0, 1] (by decide) rfl
    exact W.vret hx hb hr (fun t ht hW => ⟨⟨(1, (u1.1), (u1.2.1), (u1.2.2), 3, 12), rfl, (by rw [F_Control_powerComes, ← hu1, F_Control_powerComes_k1, if_neg h2]), xE_at hP9 hK hD9 ht hW⟩, hS.F ht⟩) hS.2.2 d_Control_powerComes_30
abbrev bc_Control_readSensors : ByteArray := prog_2_method_9_code
def y_Control_readSensors : MethodName := ⟨"CentrifugeUnit$Control", "readSensors", "(LCentrifugeUnit$Model;)V"⟩
theorem d_Control_readSensors_0 : decode bc_Control_readSensors 0 = .ok (.aload_n 0, 1) := by decide +kernel
theorem d_Control_readSensors_1 : decode bc_Control_readSensors 1 = .ok (.getfield 47, 3) := by decide +kernel
theorem d_Control_readSensors_4 : decode bc_Control_readSensors 4 = .ok (.aload_n 1, 1) := by decide +kernel
theorem d_Control_readSensors_5 : decode bc_Control_readSensors 5 = .ok (.invokevirtual 96, 3) := by decide +kernel
theorem d_Control_readSensors_8 : decode bc_Control_readSensors 8 = .ok (.aload_n 0, 1) := by decide +kernel
theorem d_Control_readSensors_9 : decode bc_Control_readSensors 9 = .ok (.getfield 12, 3) := by decide +kernel
theorem d_Control_readSensors_12 : decode bc_Control_readSensors 12 = .ok (.aload_n 0, 1) := by decide +kernel
theorem d_Control_readSensors_13 : decode bc_Control_readSensors 13 = .ok (.getfield 47, 3) := by decide +kernel
theorem d_Control_readSensors_16 : decode bc_Control_readSensors 16 = .ok (.invokevirtual 101, 3) := by decide +kernel
theorem d_Control_readSensors_19 : decode bc_Control_readSensors 19 = .ok (.aload_n 0, 1) := by decide +kernel
theorem d_Control_readSensors_20 : decode bc_Control_readSensors 20 = .ok (.getfield 47, 3) := by decide +kernel
theorem d_Control_readSensors_23 : decode bc_Control_readSensors 23 = .ok (.getfield 105, 3) := by decide +kernel
theorem d_Control_readSensors_26 : decode bc_Control_readSensors 26 = .ok (.istore_n 2, 1) := by decide +kernel
theorem d_Control_readSensors_27 : decode bc_Control_readSensors 27 = .ok (.aload_n 0, 1) := by decide +kernel
theorem d_Control_readSensors_28 : decode bc_Control_readSensors 28 = .ok (.getfield 21, 3) := by decide +kernel
theorem d_Control_readSensors_31 : decode bc_Control_readSensors 31 = .ok (.dup, 1) := by decide +kernel
theorem d_Control_readSensors_32 : decode bc_Control_readSensors 32 = .ok (.getfield 108, 3) := by decide +kernel
theorem d_Control_readSensors_35 : decode bc_Control_readSensors 35 = .ok (.iload_n 2, 1) := by decide +kernel
theorem d_Control_readSensors_36 : decode bc_Control_readSensors 36 = .ok (.i2l, 1) := by decide +kernel
theorem d_Control_readSensors_37 : decode bc_Control_readSensors 37 = .ok (.ladd, 1) := by decide +kernel
theorem d_Control_readSensors_38 : decode bc_Control_readSensors 38 = .ok (.putfield 108, 3) := by decide +kernel
theorem d_Control_readSensors_41 : decode bc_Control_readSensors 41 = .ok (.aload_n 0, 1) := by decide +kernel
theorem d_Control_readSensors_42 : decode bc_Control_readSensors 42 = .ok (.invokevirtual 112, 3) := by decide +kernel
theorem d_Control_readSensors_45 : decode bc_Control_readSensors 45 = .ok (.ifCond .eq 28, 3) := by decide +kernel
theorem d_Control_readSensors_48 : decode bc_Control_readSensors 48 = .ok (.aload_n 0, 1) := by decide +kernel
theorem d_Control_readSensors_49 : decode bc_Control_readSensors 49 = .ok (.getfield 21, 3) := by decide +kernel
theorem d_Control_readSensors_52 : decode bc_Control_readSensors 52 = .ok (.getfield 108, 3) := by decide +kernel
theorem d_Control_readSensors_55 : decode bc_Control_readSensors 55 = .ok (.ldc2_w 115, 3) := by decide +kernel
theorem d_Control_readSensors_58 : decode bc_Control_readSensors 58 = .ok (.lcmp, 1) := by decide +kernel
theorem d_Control_readSensors_59 : decode bc_Control_readSensors 59 = .ok (.ifCond .lt 14, 3) := by decide +kernel
theorem d_Control_readSensors_62 : decode bc_Control_readSensors 62 = .ok (.aload_n 0, 1) := by decide +kernel
theorem d_Control_readSensors_63 : decode bc_Control_readSensors 63 = .ok (.getfield 21, 3) := by decide +kernel
theorem d_Control_readSensors_66 : decode bc_Control_readSensors 66 = .ok (.aload_n 0, 1) := by decide +kernel
theorem d_Control_readSensors_67 : decode bc_Control_readSensors 67 = .ok (.getfield 39, 3) := by decide +kernel
theorem d_Control_readSensors_70 : decode bc_Control_readSensors 70 = .ok (.invokevirtual 117, 3) := by decide +kernel
theorem d_Control_readSensors_73 : decode bc_Control_readSensors 73 = .ok (.aload_n 0, 1) := by decide +kernel
theorem d_Control_readSensors_74 : decode bc_Control_readSensors 74 = .ok (.getfield 33, 3) := by decide +kernel
theorem d_Control_readSensors_77 : decode bc_Control_readSensors 77 = .ok (.ifCond .eq 21, 3) := by decide +kernel
theorem d_Control_readSensors_80 : decode bc_Control_readSensors 80 = .ok (.aload_n 0, 1) := by decide +kernel
theorem d_Control_readSensors_81 : decode bc_Control_readSensors 81 = .ok (.getfield 21, 3) := by decide +kernel
theorem d_Control_readSensors_84 : decode bc_Control_readSensors 84 = .ok (.aload_n 0, 1) := by decide +kernel
theorem d_Control_readSensors_85 : decode bc_Control_readSensors 85 = .ok (.getfield 21, 3) := by decide +kernel
theorem d_Control_readSensors_88 : decode bc_Control_readSensors 88 = .ok (.getfield 121, 3) := by decide +kernel
theorem d_Control_readSensors_91 : decode bc_Control_readSensors 91 = .ok (.iload_n 2, 1) := by decide +kernel
theorem d_Control_readSensors_92 : decode bc_Control_readSensors 92 = .ok (.invokestatic 124, 3) := by decide +kernel
theorem d_Control_readSensors_95 : decode bc_Control_readSensors 95 = .ok (.putfield 121, 3) := by decide +kernel
theorem d_Control_readSensors_98 : decode bc_Control_readSensors 98 = .ok (.return_, 1) := by decide +kernel
abbrev ap_Control_readSensors (M : XM) (u : (Int32 × Int32 × Int32 × Int32 × Int32 × Int32 × Int32 × Int64 × Int32 × Int32 × Int32)) : XM := ((va_up (va_up (va_up (va_up (va_up (va_up (va_up (va_up (va_up (va_up M.1 4 (u.1)) 5 (u.2.1)) 6 (u.2.2.1)) 7 (u.2.2.2.1)) 20 (u.2.2.2.2.1)) 21 (u.2.2.2.2.2.1)) 22 (u.2.2.2.2.2.2.1)) 24 (u.2.2.2.2.2.2.2.2.1)) 23 (u.2.2.2.2.2.2.2.2.2.1)) 25 (u.2.2.2.2.2.2.2.2.2.2)), (va_up M.2.1 2 (u.2.2.2.2.2.2.2.1)), M.2.2)
def F_Control_readSensors_k7 (M : XM) (u1 : (Int32 × Int32 × Int32 × Int32)) (u2 : (Int32 × Int32 × Int32)) (z3 : Int32) (j4 : Int64 × Int32 × Int32) (z7 : Int32) : (Int32 × Int32 × Int32 × Int32 × Int32 × Int32 × Int32 × Int64 × Int32 × Int32 × Int32) := ((u1.1), (u1.2.1), (u1.2.2.1), (u1.2.2.2), (u2.1), (u2.2.1), (u2.2.2), (j4.1), (j4.2.1), (j4.2.2), z7)
def F_Control_readSensors_k6 (M : XM) (u1 : (Int32 × Int32 × Int32 × Int32)) (u2 : (Int32 × Int32 × Int32)) (z3 : Int32) (j4 : Int64 × Int32 × Int32) : (Int32 × Int32 × Int32 × Int32 × Int32 × Int32 × Int32 × Int64 × Int32 × Int32 × Int32) := (if (M.1 14) = 0 then ((u1.1), (u1.2.1), (u1.2.2.1), (u1.2.2.2), (u2.1), (u2.2.1), (u2.2.2), (j4.1), (j4.2.1), (j4.2.2), (M.1 25)) else (F_Control_readSensors_k7 M u1 u2 z3 j4 (if (M.1 25) < (u1.2.2.1) then (u1.2.2.1) else (M.1 25))))
def F_Control_readSensors_k4 (M : XM) (u1 : (Int32 × Int32 × Int32 × Int32)) (u2 : (Int32 × Int32 × Int32)) (z3 : Int32) (u10 : (Int64 × Int32 × Int32)) : Int64 × Int32 × Int32 := ((u10.1), (u10.2.1), (u10.2.2))
def F_Control_readSensors_j5 (M : XM) (u1 : (Int32 × Int32 × Int32 × Int32)) (u2 : (Int32 × Int32 × Int32)) (z3 : Int32) : Int64 × Int32 × Int32 := (if z3 = 0 then (((M.2.1 2) + ((u1.2.2.1)).toInt64), (M.1 24), (M.1 23)) else (if (lg_cmp ((M.2.1 2) + ((u1.2.2.1)).toInt64) 300000) < 0 then (((M.2.1 2) + ((u1.2.2.1)).toInt64), (M.1 24), (M.1 23)) else (F_Control_readSensors_k4 M u1 u2 z3 (F_Run_readPattern (M.1, (va_up M.2.1 2 ((M.2.1 2) + ((u1.2.2.1)).toInt64)), M.2.2)))))
def F_Control_readSensors_k3 (M : XM) (u1 : (Int32 × Int32 × Int32 × Int32)) (u2 : (Int32 × Int32 × Int32)) (z3 : Int32) : (Int32 × Int32 × Int32 × Int32 × Int32 × Int32 × Int32 × Int64 × Int32 × Int32 × Int32) := (F_Control_readSensors_k6 M u1 u2 z3 (F_Control_readSensors_j5 M u1 u2 z3))
def F_Control_readSensors_k2 (M : XM) (u1 : (Int32 × Int32 × Int32 × Int32)) (u2 : (Int32 × Int32 × Int32)) : (Int32 × Int32 × Int32 × Int32 × Int32 × Int32 × Int32 × Int64 × Int32 × Int32 × Int32) := (F_Control_readSensors_k3 M u1 u2 (F_Control_turning M))
def F_Control_readSensors_k1 (M : XM) (u1 : (Int32 × Int32 × Int32 × Int32)) : (Int32 × Int32 × Int32 × Int32 × Int32 × Int32 × Int32 × Int64 × Int32 × Int32 × Int32) := (F_Control_readSensors_k2 M u1 (F_Watch_count ((va_up (va_up (va_up (va_up M.1 4 (u1.1)) 5 (u1.2.1)) 6 (u1.2.2.1)) 7 (u1.2.2.2)), M.2)))
def F_Control_readSensors (M : XM) : (Int32 × Int32 × Int32 × Int32 × Int32 × Int32 × Int32 × Int64 × Int32 × Int32 × Int32) := (F_Control_readSensors_k1 M (F_Sensors_sense M))
set_option maxHeartbeats 4000000 in
set_option maxRecDepth 100000 in
theorem c_Control_readSensors (l : Launch) (dC : Nat → ClassId) (dI : Nat → Nat → Nat) (Z : Nat → ClassId) (A : Nat → Nat) (sz : Nat) (M : XM) : Met l y_Control_readSensors (.code y_Control_readSensors bc_Control_readSensors 3 none :: xw) ({ frames := 4, cells := 0, slots := 0, locals := 84 }) (va_Pc [.ref (A 17), .ref (A 10)] (xB (dC, dI) xcl (xty Z) sz [(A 17, xc17 Z A M), (A 10, xc10 Z A M), (A 11, xc11 Z A M), (A 18, xc18 Z A M), (A 19, xc19 Z A M), (A 1, xc1 Z A M), (A 2, xc2 Z A M)])) (va_Qv (fun u : (Int32 × Int32 × Int32 × Int32 × Int32 × Int32 × Int32 × Int64 × Int32 × Int32 × Int32) => u = F_Control_readSensors M) (fun u => xE (dC, dI) xcl (xty Z) (va_A [(A 17, xc17 Z A M), (A 10, xc10 Z A M), (A 11, xc11 Z A M), (A 18, xc18 Z A M), (A 19, xc19 Z A M), (A 1, xc1 Z A M), (A 2, xc2 Z A M)] sz) [(A 17, xc17 Z A (ap_Control_readSensors M u)), (A 10, xc10 Z A (ap_Control_readSensors M u)), (A 11, xc11 Z A (ap_Control_readSensors M u)), (A 18, xc18 Z A (ap_Control_readSensors M u)), (A 19, xc19 Z A (ap_Control_readSensors M u)), (A 1, xc1 Z A (ap_Control_readSensors M u)), (A 2, xc2 Z A (ap_Control_readSensors M u))]) (va_A [(A 17, xc17 Z A M), (A 10, xc10 Z A M), (A 11, xc11 Z A M), (A 18, xc18 Z A M), (A 19, xc19 Z A M), (A 1, xc1 Z A M), (A 2, xc2 Z A M)] sz)) 0 0 (va_A [(A 17, xc17 Z A M), (A 10, xc10 Z A M), (A 11, xc11 Z A M), (A 18, xc18 Z A M), (A 19, xc19 Z A M), (A 1, xc1 Z A M), (A 2, xc2 Z A M)] sz) := by
  refine Met.ofW (cc := bc_Control_readSensors) (maxL := 3) (ret := none) (by decide) rfl ?_
  intro p e s m args below meth c s₁ B hml hv
  obtain ⟨rfl, hsz, hP, hK, hD0, hq⟩ := hv
  have hx := B.exec
  have hb := B.bytes
  have hr := B.returns
  have hts := atoms_spec (ws := (.code y_Control_readSensors bc_Control_readSensors 3 none :: xw)) B.pre
  have htt : ∀ w ∈ xw, w.before _ s = true := fun w h => hts w (List.mem_cons_of_mem _ h)
  have hown : s.vm.findClass "CentrifugeUnit$Control" = some m.cls := findClass_of_methodNamed B.named
  have hlocks := B.notSynchronized
  subst hsz
  have hD := hD0.self (sz := s.heap.size)
  generalize hAe : va_A [(A 17, xc17 Z A M), (A 10, xc10 Z A M), (A 11, xc11 Z A M), (A 18, xc18 Z A M), (A 19, xc19 Z A M), (A 1, xc1 Z A M), (A 2, xc2 Z A M)] s.heap.size = AA at hD ⊢
  have hA : ∀ q : Nat, s.heap.size ≤ q → AA q := fun q h => by rw [← hAe]; exact Or.inr h
  have hS : va_S AA s.heap s.heap [] := va_S.rf
  have hP : va_P (dC, dI) xcl [(A 17, .inr (0, [.ref (A 1), .ref (A 6), .ref (A 11), .ref (A 12), .ref (A 13), .ref (A 18), .ref (A 19), .int (M.1 12), .int (M.1 13), .int (M.1 14), .int (M.1 15), .int (M.1 16), .int (M.1 17), .int (M.1 18)])), (A 10, .inr (2, [.long (M.2.1 0)])), (A 11, .inr (7, [.int (M.1 2), .int (M.1 3), .int (M.1 4), .int (M.1 5), .int (M.1 6), .int (M.1 7)])), (A 18, .inr (8, [.int (M.1 19), .int (M.1 20), .int (M.1 21), .int (M.1 22)])), (A 19, .inr (6, [.long (M.2.1 1), .long (M.2.1 2), .int (M.1 23), .int (M.1 24), .int (M.1 25), .int (M.1 26), .int (M.1 27), .int (M.1 28)])), (A 1, .inr (5, [.ref (A 2), .ref (A 3), .ref (A 4), .ref (A 5), .int (M.1 0)])), (A 2, .inl (Z 0, 4, .inl (M.2.2.1 2)))] s.heap := hP
  have hD : va_D AA [(A 17, .inr (0, [.ref (A 1), .ref (A 6), .ref (A 11), .ref (A 12), .ref (A 13), .ref (A 18), .ref (A 19), .int (M.1 12), .int (M.1 13), .int (M.1 14), .int (M.1 15), .int (M.1 16), .int (M.1 17), .int (M.1 18)])), (A 10, .inr (2, [.long (M.2.1 0)])), (A 11, .inr (7, [.int (M.1 2), .int (M.1 3), .int (M.1 4), .int (M.1 5), .int (M.1 6), .int (M.1 7)])), (A 18, .inr (8, [.int (M.1 19), .int (M.1 20), .int (M.1 21), .int (M.1 22)])), (A 19, .inr (6, [.long (M.2.1 1), .long (M.2.1 2), .int (M.1 23), .int (M.1 24), .int (M.1 25), .int (M.1 26), .int (M.1 27), .int (M.1 28)])), (A 1, .inr (5, [.ref (A 2), .ref (A 3), .ref (A 4), .ref (A 5), .int (M.1 0)])), (A 2, .inl (Z 0, 4, .inl (M.2.2.1 2)))] := hD
  have hl := lv_entry ([.ref (A 17), .ref (A 10)]) (n := 3) (Nat.le_of_ble_eq_true rfl)
  rw [lg_entry_eq]
  generalize (lg_sl ([.ref (A 17), .ref (A 10)]) ++ List.replicate (3 - (lg_sl ([.ref (A 17), .ref (A 10)])).length) Slot.unset).toArray = ls at hl ⊢
  have hl : lv_has ls 3 [(0, .ref (A 17)), (1, .ref (A 10))] := hl
  refine lv_aload_n hx hb d_Control_readSensors_0 rfl (lv_at hl 0 rfl) ?_
  refine va_get (D := (dC, dI)) (ci := 0) (v := .ref (A 11)) (C := "CentrifugeUnit$Control") (T := xF0) (N := 14) hx hb htt xin0 hown hK hP 0 rfl rfl 2 (by decide) (htt _ tw_233) (fun _ h9 => h9) rfl d_Control_readSensors_1 ?_
  refine lv_aload_n hx hb d_Control_readSensors_4 rfl (lv_at hl 1 rfl) ?_
  have hPc := hP.sub (ws' := [(A 11, xc11 Z A M), (A 10, xc10 Z A M)]) [2, 1] rfl
  have hDc := hD.sub (ws' := [(A 11, xc11 Z A M), (A 10, xc10 Z A M)]) [2, 1] (by decide) rfl
  refine xk_v (wc := [(A 11, xc11 Z A M), (A 10, xc10 Z A M)]) (wr := [(A 17, .inr (0, [.ref (A 1), .ref (A 6), .ref (A 11), .ref (A 12), .ref (A 13), .ref (A 18), .ref (A 19), .int (M.1 12), .int (M.1 13), .int (M.1 14), .int (M.1 15), .int (M.1 16), .int (M.1 17), .int (M.1 18)])), (A 18, .inr (8, [.int (M.1 19), .int (M.1 20), .int (M.1 21), .int (M.1 22)])), (A 19, .inr (6, [.long (M.2.1 1), .long (M.2.1 2), .int (M.1 23), .int (M.1 24), .int (M.1 25), .int (M.1 26), .int (M.1 27), .int (M.1 28)])), (A 1, .inr (5, [.ref (A 2), .ref (A 3), .ref (A 4), .ref (A 5), .int (M.1 0)])), (A 2, .inl (Z 0, 4, .inl (M.2.2.1 2)))]) (va_runV (As := [.ref (A 10)]) (rest := []) ⟨hx, hb, hml, hown, hts⟩ (c_Sensors_sense l dC dI Z A _ M) (cwV 1 hts (xw_V _ tw_589 tw_590 tw_591 tw_6 tw_592) rfl rfl rfl (by decide +kernel) ⟨Nat.le_of_ble_eq_true rfl, Nat.le_of_ble_eq_true rfl⟩) ⟨xB_blind, va_recv (q0 := 2) (ci := 7) hK hP rfl rfl, fun U hU hW => ⟨rfl, xB_at hPc hK hDc hq U hU hW⟩⟩ rfl rfl hl.1 rfl (lv_room (Nat.le_of_ble_eq_true rfl)) d_Control_readSensors_5 ⟨Nat.le_of_ble_eq_true rfl, Nat.le_of_ble_eq_true rfl⟩) hP hD hS hA [2, 1] [0, 3, 4, 5, 6] rfl rfl (by decide) (by decide) (fun u1 H locs hu1 hP hD hS => ?_)
  have hP : va_P (dC, dI) xcl [(A 17, .inr (0, [.ref (A 1), .ref (A 6), .ref (A 11), .ref (A 12), .ref (A 13), .ref (A 18), .ref (A 19), .int (M.1 12), .int (M.1 13), .int (M.1 14), .int (M.1 15), .int (M.1 16), .int (M.1 17), .int (M.1 18)])), (A 18, .inr (8, [.int (M.1 19), .int (M.1 20), .int (M.1 21), .int (M.1 22)])), (A 19, .inr (6, [.long (M.2.1 1), .long (M.2.1 2), .int (M.1 23), .int (M.1 24), .int (M.1 25), .int (M.1 26), .int (M.1 27), .int (M.1 28)])), (A 1, .inr (5, [.ref (A 2), .ref (A 3), .ref (A 4), .ref (A 5), .int (M.1 0)])), (A 2, .inl (Z 0, 4, .inl (M.2.2.1 2))), (A 11, .inr (7, [.int (M.1 2), .int (M.1 3), .int (u1.1), .int (u1.2.1), .int (u1.2.2.1), .int (u1.2.2.2)])), (A 10, .inr (2, [.long (M.2.1 0)]))] H := hP
  have hD : va_D AA [(A 17, .inr (0, [.ref (A 1), .ref (A 6), .ref (A 11), .ref (A 12), .ref (A 13), .ref (A 18), .ref (A 19), .int (M.1 12), .int (M.1 13), .int (M.1 14), .int (M.1 15), .int (M.1 16), .int (M.1 17), .int (M.1 18)])), (A 18, .inr (8, [.int (M.1 19), .int (M.1 20), .int (M.1 21), .int (M.1 22)])), (A 19, .inr (6, [.long (M.2.1 1), .long (M.2.1 2), .int (M.1 23), .int (M.1 24), .int (M.1 25), .int (M.1 26), .int (M.1 27), .int (M.1 28)])), (A 1, .inr (5, [.ref (A 2), .ref (A 3), .ref (A 4), .ref (A 5), .int (M.1 0)])), (A 2, .inl (Z 0, 4, .inl (M.2.2.1 2))), (A 11, .inr (7, [.int (M.1 2), .int (M.1 3), .int (u1.1), .int (u1.2.1), .int (u1.2.2.1), .int (u1.2.2.2)])), (A 10, .inr (2, [.long (M.2.1 0)]))] := hD
  refine lv_aload_n hx hb d_Control_readSensors_8 rfl (lv_at hl 0 rfl) ?_
  refine va_get (D := (dC, dI)) (ci := 0) (v := .ref (A 18)) (C := "CentrifugeUnit$Control") (T := xF0) (N := 14) hx hb htt xin0 hown hK hP 0 rfl rfl 5 (by decide) (htt _ tw_236) (fun _ h9 => h9) rfl d_Control_readSensors_9 ?_
  refine lv_aload_n hx hb d_Control_readSensors_12 rfl (lv_at hl 0 rfl) ?_
  refine va_get (D := (dC, dI)) (ci := 0) (v := .ref (A 11)) (C := "CentrifugeUnit$Control") (T := xF0) (N := 14) hx hb htt xin0 hown hK hP 0 rfl rfl 2 (by decide) (htt _ tw_233) (fun _ h9 => h9) rfl d_Control_readSensors_13 ?_
  have hPc := hP.sub (ws' := [(A 18, xc18 Z A ((va_up (va_up (va_up (va_up M.1 4 (u1.1)) 5 (u1.2.1)) 6 (u1.2.2.1)) 7 (u1.2.2.2)), M.2)), (A 11, xc11 Z A ((va_up (va_up (va_up (va_up M.1 4 (u1.1)) 5 (u1.2.1)) 6 (u1.2.2.1)) 7 (u1.2.2.2)), M.2))]) [1, 5] rfl
  have hDc := hD.sub (ws' := [(A 18, xc18 Z A ((va_up (va_up (va_up (va_up M.1 4 (u1.1)) 5 (u1.2.1)) 6 (u1.2.2.1)) 7 (u1.2.2.2)), M.2)), (A 11, xc11 Z A ((va_up (va_up (va_up (va_up M.1 4 (u1.1)) 5 (u1.2.1)) 6 (u1.2.2.1)) 7 (u1.2.2.2)), M.2))]) [1, 5] (by decide) rfl
  refine xk_v (wc := [(A 18, xc18 Z A ((va_up (va_up (va_up (va_up M.1 4 (u1.1)) 5 (u1.2.1)) 6 (u1.2.2.1)) 7 (u1.2.2.2)), M.2)), (A 11, xc11 Z A ((va_up (va_up (va_up (va_up M.1 4 (u1.1)) 5 (u1.2.1)) 6 (u1.2.2.1)) 7 (u1.2.2.2)), M.2))]) (wr := [(A 17, .inr (0, [.ref (A 1), .ref (A 6), .ref (A 11), .ref (A 12), .ref (A 13), .ref (A 18), .ref (A 19), .int (M.1 12), .int (M.1 13), .int (M.1 14), .int (M.1 15), .int (M.1 16), .int (M.1 17), .int (M.1 18)])), (A 19, .inr (6, [.long (M.2.1 1), .long (M.2.1 2), .int (M.1 23), .int (M.1 24), .int (M.1 25), .int (M.1 26), .int (M.1 27), .int (M.1 28)])), (A 1, .inr (5, [.ref (A 2), .ref (A 3), .ref (A 4), .ref (A 5), .int (M.1 0)])), (A 2, .inl (Z 0, 4, .inl (M.2.2.1 2))), (A 10, .inr (2, [.long (M.2.1 0)]))]) (va_runV (As := [.ref (A 11)]) (rest := []) ⟨hx, hb, hml, hown, hts⟩ (c_Watch_count l dC dI Z A _ ((va_up (va_up (va_up (va_up M.1 4 (u1.1)) 5 (u1.2.1)) 6 (u1.2.2.1)) 7 (u1.2.2.2)), M.2)) (cwV 1 hts (xw_V _ tw_616 tw_617 tw_618 tw_10 tw_619) rfl rfl rfl (by decide +kernel) ⟨Nat.le_of_ble_eq_true rfl, Nat.le_of_ble_eq_true rfl⟩) ⟨xB_blind, va_recv (q0 := 1) (ci := 8) hK hP rfl rfl, fun U hU hW => ⟨rfl, xB_at hPc hK hDc hq U hU hW⟩⟩ rfl rfl hl.1 rfl (lv_room (Nat.le_of_ble_eq_true rfl)) d_Control_readSensors_16 ⟨Nat.le_of_ble_eq_true rfl, Nat.le_of_ble_eq_true rfl⟩) hP hD hS hA [1, 5] [0, 2, 3, 4, 6] rfl rfl (by decide) (by decide) (fun u2 H locs hu2 hP hD hS => ?_)
  have hP : va_P (dC, dI) xcl [(A 17, .inr (0, [.ref (A 1), .ref (A 6), .ref (A 11), .ref (A 12), .ref (A 13), .ref (A 18), .ref (A 19), .int (M.1 12), .int (M.1 13), .int (M.1 14), .int (M.1 15), .int (M.1 16), .int (M.1 17), .int (M.1 18)])), (A 19, .inr (6, [.long (M.2.1 1), .long (M.2.1 2), .int (M.1 23), .int (M.1 24), .int (M.1 25), .int (M.1 26), .int (M.1 27), .int (M.1 28)])), (A 1, .inr (5, [.ref (A 2), .ref (A 3), .ref (A 4), .ref (A 5), .int (M.1 0)])), (A 2, .inl (Z 0, 4, .inl (M.2.2.1 2))), (A 10, .inr (2, [.long (M.2.1 0)])), (A 18, .inr (8, [.int (M.1 19), .int (u2.1), .int (u2.2.1), .int (u2.2.2)])), (A 11, .inr (7, [.int (M.1 2), .int (M.1 3), .int (u1.1), .int (u1.2.1), .int (u1.2.2.1), .int (u1.2.2.2)]))] H := hP
  have hD : va_D AA [(A 17, .inr (0, [.ref (A 1), .ref (A 6), .ref (A 11), .ref (A 12), .ref (A 13), .ref (A 18), .ref (A 19), .int (M.1 12), .int (M.1 13), .int (M.1 14), .int (M.1 15), .int (M.1 16), .int (M.1 17), .int (M.1 18)])), (A 19, .inr (6, [.long (M.2.1 1), .long (M.2.1 2), .int (M.1 23), .int (M.1 24), .int (M.1 25), .int (M.1 26), .int (M.1 27), .int (M.1 28)])), (A 1, .inr (5, [.ref (A 2), .ref (A 3), .ref (A 4), .ref (A 5), .int (M.1 0)])), (A 2, .inl (Z 0, 4, .inl (M.2.2.1 2))), (A 10, .inr (2, [.long (M.2.1 0)])), (A 18, .inr (8, [.int (M.1 19), .int (u2.1), .int (u2.2.1), .int (u2.2.2)])), (A 11, .inr (7, [.int (M.1 2), .int (M.1 3), .int (u1.1), .int (u1.2.1), .int (u1.2.2.1), .int (u1.2.2.2)]))] := hD
  refine lv_aload_n hx hb d_Control_readSensors_19 rfl (lv_at hl 0 rfl) ?_
  refine va_get (D := (dC, dI)) (ci := 0) (v := .ref (A 11)) (C := "CentrifugeUnit$Control") (T := xF0) (N := 14) hx hb htt xin0 hown hK hP 0 rfl rfl 2 (by decide) (htt _ tw_233) (fun _ h9 => h9) rfl d_Control_readSensors_20 ?_
  refine va_get (D := (dC, dI)) (ci := 7) (v := .int (u1.2.2.1)) (C := "CentrifugeUnit$Sensors") (T := xF7) (N := 6) hx hb htt xin7 hown hK hP 6 rfl rfl 4 (by decide) (htt _ tw_105) (fun _ h9 => h9) rfl d_Control_readSensors_23 ?_
  refine lv_istore_n (lv' := [(2, .int (u1.2.2.1)), (0, .ref (A 17)), (1, .ref (A 10))]) hx hb d_Control_readSensors_26 rfl hl (by decide) rfl (fun ls hl => ?_)
  refine lv_aload_n hx hb d_Control_readSensors_27 rfl (lv_at hl 1 rfl) ?_
  refine va_get (D := (dC, dI)) (ci := 0) (v := .ref (A 19)) (C := "CentrifugeUnit$Control") (T := xF0) (N := 14) hx hb htt xin0 hown hK hP 0 rfl rfl 6 (by decide) (htt _ tw_238) (fun _ h9 => h9) rfl d_Control_readSensors_28 ?_
  refine lv_dup hx hb d_Control_readSensors_31 rfl ?_
  refine va_get (D := (dC, dI)) (ci := 6) (v := .long (M.2.1 2)) (C := "CentrifugeUnit$Run") (T := xF6) (N := 8) hx hb htt xin6 hown hK hP 1 rfl rfl 1 (by decide) (htt _ tw_198) (fun _ h9 => h9) rfl d_Control_readSensors_32 ?_
  refine lv_iload_n hx hb d_Control_readSensors_35 rfl (lv_at hl 0 rfl) ?_
  refine lv_i2l (v := ((u1.2.2.1)).toInt64) hx hb d_Control_readSensors_36 rfl ?_
  refine lv_ladd hx hb d_Control_readSensors_37 ?_
  refine va_put (D := (dC, dI)) (ci := 6) (v := .long ((M.2.1 2) + ((u1.2.2.1)).toInt64)) (ty := .long) (C := "CentrifugeUnit$Run") (T := xF6) (N := 8) hx hb htt xin6 xT6 xTo6 xNm6 hown hK hP hD hS 1 rfl rfl 1 (by decide) (htt _ tw_198) (fun _ h9 => h9) rfl (by decide +kernel) rfl rfl (Nat.le_of_ble_eq_true rfl) d_Control_readSensors_38 (fun H locs hP hD hS => ?_)
  have hP : va_P (dC, dI) xcl [(A 17, .inr (0, [.ref (A 1), .ref (A 6), .ref (A 11), .ref (A 12), .ref (A 13), .ref (A 18), .ref (A 19), .int (M.1 12), .int (M.1 13), .int (M.1 14), .int (M.1 15), .int (M.1 16), .int (M.1 17), .int (M.1 18)])), (A 19, .inr (6, [.long (M.2.1 1), .long ((M.2.1 2) + ((u1.2.2.1)).toInt64), .int (M.1 23), .int (M.1 24), .int (M.1 25), .int (M.1 26), .int (M.1 27), .int (M.1 28)])), (A 1, .inr (5, [.ref (A 2), .ref (A 3), .ref (A 4), .ref (A 5), .int (M.1 0)])), (A 2, .inl (Z 0, 4, .inl (M.2.2.1 2))), (A 10, .inr (2, [.long (M.2.1 0)])), (A 18, .inr (8, [.int (M.1 19), .int (u2.1), .int (u2.2.1), .int (u2.2.2)])), (A 11, .inr (7, [.int (M.1 2), .int (M.1 3), .int (u1.1), .int (u1.2.1), .int (u1.2.2.1), .int (u1.2.2.2)]))] H := hP
  have hD : va_D AA [(A 17, .inr (0, [.ref (A 1), .ref (A 6), .ref (A 11), .ref (A 12), .ref (A 13), .ref (A 18), .ref (A 19), .int (M.1 12), .int (M.1 13), .int (M.1 14), .int (M.1 15), .int (M.1 16), .int (M.1 17), .int (M.1 18)])), (A 19, .inr (6, [.long (M.2.1 1), .long ((M.2.1 2) + ((u1.2.2.1)).toInt64), .int (M.1 23), .int (M.1 24), .int (M.1 25), .int (M.1 26), .int (M.1 27), .int (M.1 28)])), (A 1, .inr (5, [.ref (A 2), .ref (A 3), .ref (A 4), .ref (A 5), .int (M.1 0)])), (A 2, .inl (Z 0, 4, .inl (M.2.2.1 2))), (A 10, .inr (2, [.long (M.2.1 0)])), (A 18, .inr (8, [.int (M.1 19), .int (u2.1), .int (u2.2.1), .int (u2.2.2)])), (A 11, .inr (7, [.int (M.1 2), .int (M.1 3), .int (u1.1), .int (u1.2.1), .int (u1.2.2.1), .int (u1.2.2.2)]))] := hD
  refine lv_aload_n hx hb d_Control_readSensors_41 rfl (lv_at hl 1 rfl) ?_
  have hPc := hP.sub (ws' := [(A 17, xc17 Z A M)]) [0] rfl
  have hDc := hD.sub (ws' := [(A 17, xc17 Z A M)]) [0] (by decide) rfl
  refine xk_p (va_runV (As := []) (rest := []) ⟨hx, hb, hml, hown, hts⟩ (c_Control_turning l dC dI Z A _ M) (cwV 0 hts (xw_V _ tw_620 tw_622 tp_2 tw_9 tw_623) rfl rfl rfl (by decide +kernel) ⟨Nat.le_of_ble_eq_true rfl, Nat.le_of_ble_eq_true rfl⟩) ⟨xB_blind, va_recv (q0 := 0) (ci := 0) hK hP rfl rfl, fun U hU hW => ⟨rfl, xB_at hPc hK hDc hq U hU hW⟩⟩ rfl rfl hl.1 rfl (lv_room (Nat.le_of_ble_eq_true rfl)) d_Control_readSensors_42 ⟨Nat.le_of_ble_eq_true rfl, Nat.le_of_ble_eq_true rfl⟩) ?_
  refine lv_topi (fun z3 hz3 => ?_)
  refine xj_h (D := (dC, dI)) (cl := xcl) (AA := AA) (H0 := s.heap) 3 73 (fun q9 : Int64 × Int32 × Int32 => [(2, .int (u1.2.2.1)), (0, .ref (A 17)), (1, .ref (A 10))]) (fun q9 : Int64 × Int32 × Int32 => []) (fun q9 : Int64 × Int32 × Int32 => [(A 17, .inr (0, [.ref (A 1), .ref (A 6), .ref (A 11), .ref (A 12), .ref (A 13), .ref (A 18), .ref (A 19), .int (M.1 12), .int (M.1 13), .int (M.1 14), .int (M.1 15), .int (M.1 16), .int (M.1 17), .int (M.1 18)])), (A 19, .inr (6, [.long (M.2.1 1), .long (q9.1), .int (q9.2.2), .int (q9.2.1), .int (M.1 25), .int (M.1 26), .int (M.1 27), .int (M.1 28)])), (A 1, .inr (5, [.ref (A 2), .ref (A 3), .ref (A 4), .ref (A 5), .int (M.1 0)])), (A 2, .inl (Z 0, 4, .inl (M.2.2.1 2))), (A 10, .inr (2, [.long (M.2.1 0)])), (A 18, .inr (8, [.int (M.1 19), .int (u2.1), .int (u2.2.1), .int (u2.2.2)])), (A 11, .inr (7, [.int (M.1 2), .int (M.1 3), .int (u1.1), .int (u1.2.1), .int (u1.2.2.1), .int (u1.2.2.2)]))]) (fun q9 : Int64 × Int32 × Int32 => q9 = F_Control_readSensors_j5 M u1 u2 z3) (fun hJ5 => ?_) (fun H locs ls j4 hP hD hS hl hj4 => ?_)
  · refine lv_if_eq (tgt := 73) hx hb d_Control_readSensors_45 rfl (fun h8 => ?_) (fun h8 => ?_)
    · exact hJ5 _ _ _ (((M.2.1 2) + ((u1.2.2.1)).toInt64), (M.1 24), (M.1 23)) (hP.sub [0, 1, 2, 3, 4, 5, 6] rfl) (hD.sub [0, 1, 2, 3, 4, 5, 6] (by decide) rfl) hS (lv_sub hl [0, 1, 2] rfl) (by rw [F_Control_readSensors_j5, if_pos h8])
    · refine lv_aload_n hx hb d_Control_readSensors_48 rfl (lv_at hl 1 rfl) ?_
      refine va_get (D := (dC, dI)) (ci := 0) (v := .ref (A 19)) (C := "CentrifugeUnit$Control") (T := xF0) (N := 14) hx hb htt xin0 hown hK hP 0 rfl rfl 6 (by decide) (htt _ tw_238) (fun _ h9 => h9) rfl d_Control_readSensors_49 ?_
      refine va_get (D := (dC, dI)) (ci := 6) (v := .long ((M.2.1 2) + ((u1.2.2.1)).toInt64)) (C := "CentrifugeUnit$Run") (T := xF6) (N := 8) hx hb htt xin6 hown hK hP 1 rfl rfl 1 (by decide) (htt _ tw_198) (fun _ h9 => h9) rfl d_Control_readSensors_52 ?_
      refine lv_ldc2 (v := 300000) hx hb hown (htt _ tw_624) d_Control_readSensors_55 ?_
      refine W.lcmp hx hb d_Control_readSensors_58 ?_
      refine lv_if_lt (tgt := 73) hx hb d_Control_readSensors_59 rfl (fun h9 => ?_) (fun h9 => ?_)
      · exact hJ5 _ _ _ (((M.2.1 2) + ((u1.2.2.1)).toInt64), (M.1 24), (M.1 23)) (hP.sub [0, 1, 2, 3, 4, 5, 6] rfl) (hD.sub [0, 1, 2, 3, 4, 5, 6] (by decide) rfl) hS (lv_sub hl [0, 1, 2] rfl) (by rw [F_Control_readSensors_j5, if_neg h8, if_pos h9])
      · refine lv_aload_n hx hb d_Control_readSensors_62 rfl (lv_at hl 1 rfl) ?_
        refine va_get (D := (dC, dI)) (ci := 0) (v := .ref (A 19)) (C := "CentrifugeUnit$Control") (T := xF0) (N := 14) hx hb htt xin0 hown hK hP 0 rfl rfl 6 (by decide) (htt _ tw_238) (fun _ h9 => h9) rfl d_Control_readSensors_63 ?_
        refine lv_aload_n hx hb d_Control_readSensors_66 rfl (lv_at hl 1 rfl) ?_
        refine va_get (D := (dC, dI)) (ci := 0) (v := .ref (A 1)) (C := "CentrifugeUnit$Control") (T := xF0) (N := 14) hx hb htt xin0 hown hK hP 0 rfl rfl 0 (by decide) (htt _ tw_231) (fun _ h9 => h9) rfl d_Control_readSensors_67 ?_
        have hPc := hP.sub (ws' := [(A 19, xc19 Z A (M.1, (va_up M.2.1 2 ((M.2.1 2) + ((u1.2.2.1)).toInt64)), M.2.2)), (A 1, xc1 Z A (M.1, (va_up M.2.1 2 ((M.2.1 2) + ((u1.2.2.1)).toInt64)), M.2.2)), (A 2, xc2 Z A (M.1, (va_up M.2.1 2 ((M.2.1 2) + ((u1.2.2.1)).toInt64)), M.2.2))]) [1, 2, 3] rfl
        have hDc := hD.sub (ws' := [(A 19, xc19 Z A (M.1, (va_up M.2.1 2 ((M.2.1 2) + ((u1.2.2.1)).toInt64)), M.2.2)), (A 1, xc1 Z A (M.1, (va_up M.2.1 2 ((M.2.1 2) + ((u1.2.2.1)).toInt64)), M.2.2)), (A 2, xc2 Z A (M.1, (va_up M.2.1 2 ((M.2.1 2) + ((u1.2.2.1)).toInt64)), M.2.2))]) [1, 2, 3] (by decide) rfl
        refine xk_v (wc := [(A 19, xc19 Z A (M.1, (va_up M.2.1 2 ((M.2.1 2) + ((u1.2.2.1)).toInt64)), M.2.2)), (A 1, xc1 Z A (M.1, (va_up M.2.1 2 ((M.2.1 2) + ((u1.2.2.1)).toInt64)), M.2.2)), (A 2, xc2 Z A (M.1, (va_up M.2.1 2 ((M.2.1 2) + ((u1.2.2.1)).toInt64)), M.2.2))]) (wr := [(A 17, .inr (0, [.ref (A 1), .ref (A 6), .ref (A 11), .ref (A 12), .ref (A 13), .ref (A 18), .ref (A 19), .int (M.1 12), .int (M.1 13), .int (M.1 14), .int (M.1 15), .int (M.1 16), .int (M.1 17), .int (M.1 18)])), (A 10, .inr (2, [.long (M.2.1 0)])), (A 18, .inr (8, [.int (M.1 19), .int (u2.1), .int (u2.2.1), .int (u2.2.2)])), (A 11, .inr (7, [.int (M.1 2), .int (M.1 3), .int (u1.1), .int (u1.2.1), .int (u1.2.2.1), .int (u1.2.2.2)]))]) (va_runV (As := [.ref (A 1)]) (rest := []) ⟨hx, hb, hml, hown, hts⟩ (c_Run_readPattern l dC dI Z A _ (M.1, (va_up M.2.1 2 ((M.2.1 2) + ((u1.2.2.1)).toInt64)), M.2.2)) (cwV 1 hts (xw_V _ tw_625 tw_626 tw_627 tw_11 tw_628) rfl rfl rfl (by decide +kernel) ⟨Nat.le_of_ble_eq_true rfl, Nat.le_of_ble_eq_true rfl⟩) ⟨xB_blind, va_recv (q0 := 1) (ci := 6) hK hP rfl rfl, fun U hU hW => ⟨rfl, xB_at hPc hK hDc hq U hU hW⟩⟩ rfl rfl hl.1 rfl (lv_room (Nat.le_of_ble_eq_true rfl)) d_Control_readSensors_70 ⟨Nat.le_of_ble_eq_true rfl, Nat.le_of_ble_eq_true rfl⟩) hP hD hS hA [1, 2, 3] [0, 4, 5, 6] rfl rfl (by decide) (by decide) (fun u10 H locs hu10 hP hD hS => ?_)
        have hP : va_P (dC, dI) xcl [(A 17, .inr (0, [.ref (A 1), .ref (A 6), .ref (A 11), .ref (A 12), .ref (A 13), .ref (A 18), .ref (A 19), .int (M.1 12), .int (M.1 13), .int (M.1 14), .int (M.1 15), .int (M.1 16), .int (M.1 17), .int (M.1 18)])), (A 10, .inr (2, [.long (M.2.1 0)])), (A 18, .inr (8, [.int (M.1 19), .int (u2.1), .int (u2.2.1), .int (u2.2.2)])), (A 11, .inr (7, [.int (M.1 2), .int (M.1 3), .int (u1.1), .int (u1.2.1), .int (u1.2.2.1), .int (u1.2.2.2)])), (A 19, .inr (6, [.long (M.2.1 1), .long (u10.1), .int (u10.2.2), .int (u10.2.1), .int (M.1 25), .int (M.1 26), .int (M.1 27), .int (M.1 28)])), (A 1, .inr (5, [.ref (A 2), .ref (A 3), .ref (A 4), .ref (A 5), .int (M.1 0)])), (A 2, .inl (Z 0, 4, .inl (M.2.2.1 2)))] H := hP
        have hD : va_D AA [(A 17, .inr (0, [.ref (A 1), .ref (A 6), .ref (A 11), .ref (A 12), .ref (A 13), .ref (A 18), .ref (A 19), .int (M.1 12), .int (M.1 13), .int (M.1 14), .int (M.1 15), .int (M.1 16), .int (M.1 17), .int (M.1 18)])), (A 10, .inr (2, [.long (M.2.1 0)])), (A 18, .inr (8, [.int (M.1 19), .int (u2.1), .int (u2.2.1), .int (u2.2.2)])), (A 11, .inr (7, [.int (M.1 2), .int (M.1 3), .int (u1.1), .int (u1.2.1), .int (u1.2.2.1), .int (u1.2.2.2)])), (A 19, .inr (6, [.long (M.2.1 1), .long (u10.1), .int (u10.2.2), .int (u10.2.1), .int (M.1 25), .int (M.1 26), .int (M.1 27), .int (M.1 28)])), (A 1, .inr (5, [.ref (A 2), .ref (A 3), .ref (A 4), .ref (A 5), .int (M.1 0)])), (A 2, .inl (Z 0, 4, .inl (M.2.2.1 2)))] := hD
        exact hJ5 _ _ _ ((u10.1), (u10.2.1), (u10.2.2)) (hP.sub [0, 4, 5, 6, 1, 2, 3] rfl) (hD.sub [0, 4, 5, 6, 1, 2, 3] (by decide) rfl) hS (lv_sub hl [0, 1, 2] rfl) (by rw [F_Control_readSensors_j5, if_neg h8, if_neg h9, ← hu10, F_Control_readSensors_k4])
  · refine lv_aload_n hx hb d_Control_readSensors_73 rfl (lv_at hl 1 rfl) ?_
    refine va_get (D := (dC, dI)) (ci := 0) (v := .int (M.1 14)) (C := "CentrifugeUnit$Control") (T := xF0) (N := 14) hx hb htt xin0 hown hK hP 0 rfl rfl 9 (by decide) (htt _ tw_244) (fun _ h9 => h9) rfl d_Control_readSensors_74 ?_
    refine lv_if_eq (tgt := 98) hx hb d_Control_readSensors_77 rfl (fun h6 => ?_) (fun h6 => ?_)
    · have hP9 := hP.sub (ws' := [(A 17, xc17 Z A (ap_Control_readSensors M ((u1.1), (u1.2.1), (u1.2.2.1), (u1.2.2.2), (u2.1), (u2.2.1), (u2.2.2), (j4.1), (j4.2.1), (j4.2.2), (M.1 25)))), (A 10, xc10 Z A (ap_Control_readSensors M ((u1.1), (u1.2.1), (u1.2.2.1), (u1.2.2.2), (u2.1), (u2.2.1), (u2.2.2), (j4.1), (j4.2.1), (j4.2.2), (M.1 25)))), (A 11, xc11 Z A (ap_Control_readSensors M ((u1.1), (u1.2.1), (u1.2.2.1), (u1.2.2.2), (u2.1), (u2.2.1), (u2.2.2), (j4.1), (j4.2.1), (j4.2.2), (M.1 25)))), (A 18, xc18 Z A (ap_Control_readSensors M ((u1.1), (u1.2.1), (u1.2.2.1), (u1.2.2.2), (u2.1), (u2.2.1), (u2.2.2), (j4.1), (j4.2.1), (j4.2.2), (M.1 25)))), (A 19, xc19 Z A (ap_Control_readSensors M ((u1.1), (u1.2.1), (u1.2.2.1), (u1.2.2.2), (u2.1), (u2.2.1), (u2.2.2), (j4.1), (j4.2.1), (j4.2.2), (M.1 25)))), (A 1, xc1 Z A (ap_Control_readSensors M ((u1.1), (u1.2.1), (u1.2.2.1), (u1.2.2.2), (u2.1), (u2.2.1), (u2.2.2), (j4.1), (j4.2.1), (j4.2.2), (M.1 25)))), (A 2, xc2 Z A (ap_Control_readSensors M ((u1.1), (u1.2.1), (u1.2.2.1), (u1.2.2.2), (u2.1), (u2.2.1), (u2.2.2), (j4.1), (j4.2.1), (j4.2.2), (M.1 25))))]) [0, 4, 6, 5, 1, 2, 3] rfl
      have hD9 := hD.sub (ws' := [(A 17, xc17 Z A (ap_Control_readSensors M ((u1.1), (u1.2.1), (u1.2.2.1), (u1.2.2.2), (u2.1), (u2.2.1), (u2.2.2), (j4.1), (j4.2.1), (j4.2.2), (M.1 25)))), (A 10, xc10 Z A (ap_Control_readSensors M ((u1.1), (u1.2.1), (u1.2.2.1), (u1.2.2.2), (u2.1), (u2.2.1), (u2.2.2), (j4.1), (j4.2.1), (j4.2.2), (M.1 25)))), (A 11, xc11 Z A (ap_Control_readSensors M ((u1.1), (u1.2.1), (u1.2.2.1), (u1.2.2.2), (u2.1), (u2.2.1), (u2.2.2), (j4.1), (j4.2.1), (j4.2.2), (M.1 25)))), (A 18, xc18 Z A (ap_Control_readSensors M ((u1.1), (u1.2.1), (u1.2.2.1), (u1.2.2.2), (u2.1), (u2.2.1), (u2.2.2), (j4.1), (j4.2.1), (j4.2.2), (M.1 25)))), (A 19, xc19 Z A (ap_Control_readSensors M ((u1.1), (u1.2.1), (u1.2.2.1), (u1.2.2.2), (u2.1), (u2.2.1), (u2.2.2), (j4.1), (j4.2.1), (j4.2.2), (M.1 25)))), (A 1, xc1 Z A (ap_Control_readSensors M ((u1.1), (u1.2.1), (u1.2.2.1), (u1.2.2.2), (u2.1), (u2.2.1), (u2.2.2), (j4.1), (j4.2.1), (j4.2.2), (M.1 25)))), (A 2, xc2 Z A (ap_Control_readSensors M ((u1.1), (u1.2.1), (u1.2.2.1), (u1.2.2.2), (u2.1), (u2.2.1), (u2.2.2), (j4.1), (j4.2.1), (j4.2.2), (M.1 25))))]) [0, 4, 6, 5, 1, 2, 3] (by decide) rfl
      exact W.vret hx hb hr (fun t ht hW => ⟨⟨((u1.1), (u1.2.1), (u1.2.2.1), (u1.2.2.2), (u2.1), (u2.2.1), (u2.2.2), (j4.1), (j4.2.1), (j4.2.2), (M.1 25)), rfl, (by rw [F_Control_readSensors, ← hu1, F_Control_readSensors_k1, ← hu2, F_Control_readSensors_k2, ← hz3, F_Control_readSensors_k3, ← hj4, F_Control_readSensors_k6, if_pos h6]), xE_at hP9 hK hD9 ht hW⟩, hS.F ht⟩) hS.2.2 d_Control_readSensors_98
    · refine lv_aload_n hx hb d_Control_readSensors_80 rfl (lv_at hl 1 rfl) ?_
      refine va_get (D := (dC, dI)) (ci := 0) (v := .ref (A 19)) (C := "CentrifugeUnit$Control") (T := xF0) (N := 14) hx hb htt xin0 hown hK hP 0 rfl rfl 6 (by decide) (htt _ tw_238) (fun _ h9 => h9) rfl d_Control_readSensors_81 ?_
      refine lv_aload_n hx hb d_Control_readSensors_84 rfl (lv_at hl 1 rfl) ?_
      refine va_get (D := (dC, dI)) (ci := 0) (v := .ref (A 19)) (C := "CentrifugeUnit$Control") (T := xF0) (N := 14) hx hb htt xin0 hown hK hP 0 rfl rfl 6 (by decide) (htt _ tw_238) (fun _ h9 => h9) rfl d_Control_readSensors_85 ?_
      refine va_get (D := (dC, dI)) (ci := 6) (v := .int (M.1 25)) (C := "CentrifugeUnit$Run") (T := xF6) (N := 8) hx hb htt xin6 hown hK hP 1 rfl rfl 4 (by decide) (htt _ tw_205) (fun _ h9 => h9) rfl d_Control_readSensors_88 ?_
      refine lv_iload_n hx hb d_Control_readSensors_91 rfl (lv_at hl 0 rfl) ?_
      refine va_mmax hx hb (hml.trans hl.1.symm) hown (htt _ tw_634) (htt _ tw_611) (htt _ tw_18) (htt _ tw_612) (Nat.le_of_ble_eq_true rfl) (Nat.le_of_ble_eq_true rfl) (Nat.le_of_ble_eq_true rfl) (Nat.le_of_ble_eq_true rfl) d_Control_readSensors_92 ?_
      refine lv_topi (fun z7 hz7 => ?_)
      refine va_put (D := (dC, dI)) (ci := 6) (v := .int z7) (ty := .int) (C := "CentrifugeUnit$Run") (T := xF6) (N := 8) hx hb htt xin6 xT6 xTo6 xNm6 hown hK hP hD hS 1 rfl rfl 4 (by decide) (htt _ tw_205) (fun _ h9 => h9) rfl (by decide +kernel) rfl rfl (Nat.le_of_ble_eq_true rfl) d_Control_readSensors_95 (fun H locs hP hD hS => ?_)
      have hP : va_P (dC, dI) xcl [(A 17, .inr (0, [.ref (A 1), .ref (A 6), .ref (A 11), .ref (A 12), .ref (A 13), .ref (A 18), .ref (A 19), .int (M.1 12), .int (M.1 13), .int (M.1 14), .int (M.1 15), .int (M.1 16), .int (M.1 17), .int (M.1 18)])), (A 19, .inr (6, [.long (M.2.1 1), .long (j4.1), .int (j4.2.2), .int (j4.2.1), .int z7, .int (M.1 26), .int (M.1 27), .int (M.1 28)])), (A 1, .inr (5, [.ref (A 2), .ref (A 3), .ref (A 4), .ref (A 5), .int (M.1 0)])), (A 2, .inl (Z 0, 4, .inl (M.2.2.1 2))), (A 10, .inr (2, [.long (M.2.1 0)])), (A 18, .inr (8, [.int (M.1 19), .int (u2.1), .int (u2.2.1), .int (u2.2.2)])), (A 11, .inr (7, [.int (M.1 2), .int (M.1 3), .int (u1.1), .int (u1.2.1), .int (u1.2.2.1), .int (u1.2.2.2)]))] H := hP
      have hD : va_D AA [(A 17, .inr (0, [.ref (A 1), .ref (A 6), .ref (A 11), .ref (A 12), .ref (A 13), .ref (A 18), .ref (A 19), .int (M.1 12), .int (M.1 13), .int (M.1 14), .int (M.1 15), .int (M.1 16), .int (M.1 17), .int (M.1 18)])), (A 19, .inr (6, [.long (M.2.1 1), .long (j4.1), .int (j4.2.2), .int (j4.2.1), .int z7, .int (M.1 26), .int (M.1 27), .int (M.1 28)])), (A 1, .inr (5, [.ref (A 2), .ref (A 3), .ref (A 4), .ref (A 5), .int (M.1 0)])), (A 2, .inl (Z 0, 4, .inl (M.2.2.1 2))), (A 10, .inr (2, [.long (M.2.1 0)])), (A 18, .inr (8, [.int (M.1 19), .int (u2.1), .int (u2.2.1), .int (u2.2.2)])), (A 11, .inr (7, [.int (M.1 2), .int (M.1 3), .int (u1.1), .int (u1.2.1), .int (u1.2.2.1), .int (u1.2.2.2)]))] := hD
      have hP9 := hP.sub (ws' := [(A 17, xc17 Z A (ap_Control_readSensors M ((u1.1), (u1.2.1), (u1.2.2.1), (u1.2.2.2), (u2.1), (u2.2.1), (u2.2.2), (j4.1), (j4.2.1), (j4.2.2), z7))), (A 10, xc10 Z A (ap_Control_readSensors M ((u1.1), (u1.2.1), (u1.2.2.1), (u1.2.2.2), (u2.1), (u2.2.1), (u2.2.2), (j4.1), (j4.2.1), (j4.2.2), z7))), (A 11, xc11 Z A (ap_Control_readSensors M ((u1.1), (u1.2.1), (u1.2.2.1), (u1.2.2.2), (u2.1), (u2.2.1), (u2.2.2), (j4.1), (j4.2.1), (j4.2.2), z7))), (A 18, xc18 Z A (ap_Control_readSensors M ((u1.1), (u1.2.1), (u1.2.2.1), (u1.2.2.2), (u2.1), (u2.2.1), (u2.2.2), (j4.1), (j4.2.1), (j4.2.2), z7))), (A 19, xc19 Z A (ap_Control_readSensors M ((u1.1), (u1.2.1), (u1.2.2.1), (u1.2.2.2), (u2.1), (u2.2.1), (u2.2.2), (j4.1), (j4.2.1), (j4.2.2), z7))), (A 1, xc1 Z A (ap_Control_readSensors M ((u1.1), (u1.2.1), (u1.2.2.1), (u1.2.2.2), (u2.1), (u2.2.1), (u2.2.2), (j4.1), (j4.2.1), (j4.2.2), z7))), (A 2, xc2 Z A (ap_Control_readSensors M ((u1.1), (u1.2.1), (u1.2.2.1), (u1.2.2.2), (u2.1), (u2.2.1), (u2.2.2), (j4.1), (j4.2.1), (j4.2.2), z7)))]) [0, 4, 6, 5, 1, 2, 3] rfl
      have hD9 := hD.sub (ws' := [(A 17, xc17 Z A (ap_Control_readSensors M ((u1.1), (u1.2.1), (u1.2.2.1), (u1.2.2.2), (u2.1), (u2.2.1), (u2.2.2), (j4.1), (j4.2.1), (j4.2.2), z7))), (A 10, xc10 Z A (ap_Control_readSensors M ((u1.1), (u1.2.1), (u1.2.2.1), (u1.2.2.2), (u2.1), (u2.2.1), (u2.2.2), (j4.1), (j4.2.1), (j4.2.2), z7))), (A 11, xc11 Z A (ap_Control_readSensors M ((u1.1), (u1.2.1), (u1.2.2.1), (u1.2.2.2), (u2.1), (u2.2.1), (u2.2.2), (j4.1), (j4.2.1), (j4.2.2), z7))), (A 18, xc18 Z A (ap_Control_readSensors M ((u1.1), (u1.2.1), (u1.2.2.1), (u1.2.2.2), (u2.1), (u2.2.1), (u2.2.2), (j4.1), (j4.2.1), (j4.2.2), z7))), (A 19, xc19 Z A (ap_Control_readSensors M ((u1.1), (u1.2.1), (u1.2.2.1), (u1.2.2.2), (u2.1), (u2.2.1), (u2.2.2), (j4.1), (j4.2.1), (j4.2.2), z7))), (A 1, xc1 Z A (ap_Control_readSensors M ((u1.1), (u1.2.1), (u1.2.2.1), (u1.2.2.2), (u2.1), (u2.2.1), (u2.2.2), (j4.1), (j4.2.1), (j4.2.2), z7))), (A 2, xc2 Z A (ap_Control_readSensors M ((u1.1), (u1.2.1), (u1.2.2.1), (u1.2.2.2), (u2.1), (u2.2.1), (u2.2.2), (j4.1), (j4.2.1), (j4.2.2), z7)))]) [0, 4, 6, 5, 1, 2, 3] (by decide) rfl
      exact W.vret hx hb hr (fun t ht hW => ⟨⟨((u1.1), (u1.2.1), (u1.2.2.1), (u1.2.2.2), (u2.1), (u2.2.1), (u2.2.2), (j4.1), (j4.2.1), (j4.2.2), z7), rfl, (by rw [F_Control_readSensors, ← hu1, F_Control_readSensors_k1, ← hu2, F_Control_readSensors_k2, ← hz3, F_Control_readSensors_k3, ← hj4, F_Control_readSensors_k6, if_neg h6, ← hz7, F_Control_readSensors_k7]), xE_at hP9 hK hD9 ht hW⟩, hS.F ht⟩) hS.2.2 d_Control_readSensors_98
abbrev bc_Control_faultReason : ByteArray := prog_2_method_11_code
def y_Control_faultReason : MethodName := ⟨"CentrifugeUnit$Control", "faultReason", "()I"⟩
theorem d_Control_faultReason_0 : decode bc_Control_faultReason 0 = .ok (.aload_n 0, 1) := by decide +kernel
theorem d_Control_faultReason_1 : decode bc_Control_faultReason 1 = .ok (.getfield 51, 3) := by decide +kernel
theorem d_Control_faultReason_4 : decode bc_Control_faultReason 4 = .ok (.invokevirtual 134, 3) := by decide +kernel
theorem d_Control_faultReason_7 : decode bc_Control_faultReason 7 = .ok (.ifCond .ne 5, 3) := by decide +kernel
theorem d_Control_faultReason_10 : decode bc_Control_faultReason 10 = .ok (.iconst 1, 1) := by decide +kernel
theorem d_Control_faultReason_11 : decode bc_Control_faultReason 11 = .ok (.ireturn, 1) := by decide +kernel
theorem d_Control_faultReason_12 : decode bc_Control_faultReason 12 = .ok (.aload_n 0, 1) := by decide +kernel
theorem d_Control_faultReason_13 : decode bc_Control_faultReason 13 = .ok (.getfield 21, 3) := by decide +kernel
theorem d_Control_faultReason_16 : decode bc_Control_faultReason 16 = .ok (.getfield 137, 3) := by decide +kernel
theorem d_Control_faultReason_19 : decode bc_Control_faultReason 19 = .ok (.ifCond .eq 5, 3) := by decide +kernel
theorem d_Control_faultReason_22 : decode bc_Control_faultReason 22 = .ok (.iconst 2, 1) := by decide +kernel
theorem d_Control_faultReason_23 : decode bc_Control_faultReason 23 = .ok (.ireturn, 1) := by decide +kernel
theorem d_Control_faultReason_24 : decode bc_Control_faultReason 24 = .ok (.aload_n 0, 1) := by decide +kernel
theorem d_Control_faultReason_25 : decode bc_Control_faultReason 25 = .ok (.getfield 47, 3) := by decide +kernel
theorem d_Control_faultReason_28 : decode bc_Control_faultReason 28 = .ok (.getfield 105, 3) := by decide +kernel
theorem d_Control_faultReason_31 : decode bc_Control_faultReason 31 = .ok (.aload_n 0, 1) := by decide +kernel
theorem d_Control_faultReason_32 : decode bc_Control_faultReason 32 = .ok (.getfield 39, 3) := by decide +kernel
theorem d_Control_faultReason_35 : decode bc_Control_faultReason 35 = .ok (.aload_n 0, 1) := by decide +kernel
theorem d_Control_faultReason_36 : decode bc_Control_faultReason 36 = .ok (.getfield 21, 3) := by decide +kernel
theorem d_Control_faultReason_39 : decode bc_Control_faultReason 39 = .ok (.getfield 140, 3) := by decide +kernel
theorem d_Control_faultReason_42 : decode bc_Control_faultReason 42 = .ok (.invokevirtual 143, 3) := by decide +kernel
theorem d_Control_faultReason_45 : decode bc_Control_faultReason 45 = .ok (.if_icmp .le 5, 3) := by decide +kernel
theorem d_Control_faultReason_48 : decode bc_Control_faultReason 48 = .ok (.iconst 3, 1) := by decide +kernel
theorem d_Control_faultReason_49 : decode bc_Control_faultReason 49 = .ok (.ireturn, 1) := by decide +kernel
theorem d_Control_faultReason_50 : decode bc_Control_faultReason 50 = .ok (.aload_n 0, 1) := by decide +kernel
theorem d_Control_faultReason_51 : decode bc_Control_faultReason 51 = .ok (.getfield 12, 3) := by decide +kernel
theorem d_Control_faultReason_54 : decode bc_Control_faultReason 54 = .ok (.invokevirtual 149, 3) := by decide +kernel
theorem d_Control_faultReason_57 : decode bc_Control_faultReason 57 = .ok (.ifCond .eq 5, 3) := by decide +kernel
theorem d_Control_faultReason_60 : decode bc_Control_faultReason 60 = .ok (.iconst 4, 1) := by decide +kernel
theorem d_Control_faultReason_61 : decode bc_Control_faultReason 61 = .ok (.ireturn, 1) := by decide +kernel
theorem d_Control_faultReason_62 : decode bc_Control_faultReason 62 = .ok (.aload_n 0, 1) := by decide +kernel
theorem d_Control_faultReason_63 : decode bc_Control_faultReason 63 = .ok (.getfield 12, 3) := by decide +kernel
theorem d_Control_faultReason_66 : decode bc_Control_faultReason 66 = .ok (.invokevirtual 152, 3) := by decide +kernel
theorem d_Control_faultReason_69 : decode bc_Control_faultReason 69 = .ok (.ifCond .eq 7, 3) := by decide +kernel
theorem d_Control_faultReason_72 : decode bc_Control_faultReason 72 = .ok (.iconst 5, 1) := by decide +kernel
theorem d_Control_faultReason_73 : decode bc_Control_faultReason 73 = .ok (.goto 4, 3) := by decide +kernel
theorem d_Control_faultReason_76 : decode bc_Control_faultReason 76 = .ok (.iconst 0, 1) := by decide +kernel
theorem d_Control_faultReason_77 : decode bc_Control_faultReason 77 = .ok (.ireturn, 1) := by decide +kernel
def F_Control_faultReason_k4 (M : XM) (z1 : Int32) (z4 : Int32) (z6 : Int32) (z8 : Int32) : Int32 := (if z8 = 0 then 0 else 5)
def F_Control_faultReason_k3 (M : XM) (z1 : Int32) (z4 : Int32) (z6 : Int32) : Int32 := (if z6 = 0 then (F_Control_faultReason_k4 M z1 z4 z6 (F_Watch_differsTooLong M)) else 4)
def F_Control_faultReason_k2 (M : XM) (z1 : Int32) (z4 : Int32) : Int32 := (if (M.1 6) ≤ z4 then (F_Control_faultReason_k3 M z1 z4 (F_Watch_shakesTooLong M)) else 3)
def F_Control_faultReason_k1 (M : XM) (z1 : Int32) : Int32 := (if z1 = 0 then 1 else (if (M.1 24) = 0 then (F_Control_faultReason_k2 M z1 (F_Rotors_limitOf M (M.1 23))) else 2))
def F_Control_faultReason (M : XM) : Int32 := (F_Control_faultReason_k1 M (F_Lid_locked M))
set_option maxHeartbeats 4000000 in
set_option maxRecDepth 100000 in
theorem c_Control_faultReason (l : Launch) (dC : Nat → ClassId) (dI : Nat → Nat → Nat) (Z : Nat → ClassId) (A : Nat → Nat) (sz : Nat) (M : XM) : Met l y_Control_faultReason (.code y_Control_faultReason bc_Control_faultReason 1 (some .int) :: xw) ({ frames := 3, cells := 0, slots := 0, locals := 63 }) (va_Pc [.ref (A 17)] (xB (dC, dI) xcl (xty Z) sz [(A 17, xc17 Z A M), (A 12, xc12 Z A M), (A 19, xc19 Z A M), (A 11, xc11 Z A M), (A 1, xc1 Z A M), (A 4, xc4 Z A M), (A 18, xc18 Z A M)])) (k2_QcV (.int (F_Control_faultReason M))) 0 0 (fun _ => False) := by
  refine Met.ofW (cc := bc_Control_faultReason) (maxL := 1) (ret := (some .int)) (by decide) rfl ?_
  intro p e s m args below meth c s₁ B hml hv
  obtain ⟨rfl, hsz, hP, hK, hD0, hq⟩ := hv
  have hx := B.exec
  have hb := B.bytes
  have hr := B.returns
  have hts := atoms_spec (ws := (.code y_Control_faultReason bc_Control_faultReason 1 (some .int) :: xw)) B.pre
  have htt : ∀ w ∈ xw, w.before _ s = true := fun w h => hts w (List.mem_cons_of_mem _ h)
  have hown : s.vm.findClass "CentrifugeUnit$Control" = some m.cls := findClass_of_methodNamed B.named
  have hlocks := B.notSynchronized
  subst hsz
  have hD : va_D (fun _ => True) [(A 17, .inr (0, [.ref (A 1), .ref (A 6), .ref (A 11), .ref (A 12), .ref (A 13), .ref (A 18), .ref (A 19), .int (M.1 12), .int (M.1 13), .int (M.1 14), .int (M.1 15), .int (M.1 16), .int (M.1 17), .int (M.1 18)])), (A 12, .inr (1, [.int (M.1 8), .int (M.1 9), .int (M.1 10)])), (A 19, .inr (6, [.long (M.2.1 1), .long (M.2.1 2), .int (M.1 23), .int (M.1 24), .int (M.1 25), .int (M.1 26), .int (M.1 27), .int (M.1 28)])), (A 11, .inr (7, [.int (M.1 2), .int (M.1 3), .int (M.1 4), .int (M.1 5), .int (M.1 6), .int (M.1 7)])), (A 1, .inr (5, [.ref (A 2), .ref (A 3), .ref (A 4), .ref (A 5), .int (M.1 0)])), (A 4, .inl (Z 0, 4, .inl (M.2.2.1 4))), (A 18, .inr (8, [.int (M.1 19), .int (M.1 20), .int (M.1 21), .int (M.1 22)]))] := hD0
  have hP : va_P (dC, dI) xcl [(A 17, .inr (0, [.ref (A 1), .ref (A 6), .ref (A 11), .ref (A 12), .ref (A 13), .ref (A 18), .ref (A 19), .int (M.1 12), .int (M.1 13), .int (M.1 14), .int (M.1 15), .int (M.1 16), .int (M.1 17), .int (M.1 18)])), (A 12, .inr (1, [.int (M.1 8), .int (M.1 9), .int (M.1 10)])), (A 19, .inr (6, [.long (M.2.1 1), .long (M.2.1 2), .int (M.1 23), .int (M.1 24), .int (M.1 25), .int (M.1 26), .int (M.1 27), .int (M.1 28)])), (A 11, .inr (7, [.int (M.1 2), .int (M.1 3), .int (M.1 4), .int (M.1 5), .int (M.1 6), .int (M.1 7)])), (A 1, .inr (5, [.ref (A 2), .ref (A 3), .ref (A 4), .ref (A 5), .int (M.1 0)])), (A 4, .inl (Z 0, 4, .inl (M.2.2.1 4))), (A 18, .inr (8, [.int (M.1 19), .int (M.1 20), .int (M.1 21), .int (M.1 22)]))] s.heap := hP
  have hl := lv_entry ([.ref (A 17)]) (n := 1) (Nat.le_of_ble_eq_true rfl)
  rw [lg_entry_eq]
  generalize (lg_sl ([.ref (A 17)]) ++ List.replicate (1 - (lg_sl ([.ref (A 17)])).length) Slot.unset).toArray = ls at hl ⊢
  have hl : lv_has ls 1 [(0, .ref (A 17))] := hl
  refine lv_aload_n hx hb d_Control_faultReason_0 rfl (lv_at hl 0 rfl) ?_
  refine va_get (D := (dC, dI)) (ci := 0) (v := .ref (A 12)) (C := "CentrifugeUnit$Control") (T := xF0) (N := 14) hx hb htt xin0 hown hK hP 0 rfl rfl 3 (by decide) (htt _ tw_234) (fun _ h9 => h9) rfl d_Control_faultReason_1 ?_
  have hPc := hP.sub (ws' := [(A 12, xc12 Z A M)]) [1] rfl
  have hDc := hD.sub (ws' := [(A 12, xc12 Z A M)]) [1] (by decide) rfl
  refine xk_p (va_runV (As := []) (rest := []) ⟨hx, hb, hml, hown, hts⟩ (c_Lid_locked l dC dI Z A _ M) (cwV 0 hts (xw_V _ tw_643 tw_486 tw_487 tw_7 tw_488) rfl rfl rfl (by decide +kernel) ⟨Nat.le_of_ble_eq_true rfl, Nat.le_of_ble_eq_true rfl⟩) ⟨xB_blind, va_recv (q0 := 1) (ci := 1) hK hP rfl rfl, fun U hU hW => ⟨rfl, xB_at hPc hK hDc hq U hU hW⟩⟩ rfl rfl hl.1 rfl (lv_room (Nat.le_of_ble_eq_true rfl)) d_Control_faultReason_4 ⟨Nat.le_of_ble_eq_true rfl, Nat.le_of_ble_eq_true rfl⟩) ?_
  refine lv_topi (fun z1 hz1 => ?_)
  refine lv_if_ne (tgt := 12) hx hb d_Control_faultReason_7 rfl (fun h2 => ?_) (fun h2 => ?_)
  · refine lv_aload_n hx hb d_Control_faultReason_12 rfl (lv_at hl 0 rfl) ?_
    refine va_get (D := (dC, dI)) (ci := 0) (v := .ref (A 19)) (C := "CentrifugeUnit$Control") (T := xF0) (N := 14) hx hb htt xin0 hown hK hP 0 rfl rfl 6 (by decide) (htt _ tw_238) (fun _ h9 => h9) rfl d_Control_faultReason_13 ?_
    refine va_get (D := (dC, dI)) (ci := 6) (v := .int (M.1 24)) (C := "CentrifugeUnit$Run") (T := xF6) (N := 8) hx hb htt xin6 hown hK hP 2 rfl rfl 3 (by decide) (htt _ tw_203) (fun _ h9 => h9) rfl d_Control_faultReason_16 ?_
    refine lv_if_eq (tgt := 24) hx hb d_Control_faultReason_19 rfl (fun h3 => ?_) (fun h3 => ?_)
    · refine lv_aload_n hx hb d_Control_faultReason_24 rfl (lv_at hl 0 rfl) ?_
      refine va_get (D := (dC, dI)) (ci := 0) (v := .ref (A 11)) (C := "CentrifugeUnit$Control") (T := xF0) (N := 14) hx hb htt xin0 hown hK hP 0 rfl rfl 2 (by decide) (htt _ tw_233) (fun _ h9 => h9) rfl d_Control_faultReason_25 ?_
      refine va_get (D := (dC, dI)) (ci := 7) (v := .int (M.1 6)) (C := "CentrifugeUnit$Sensors") (T := xF7) (N := 6) hx hb htt xin7 hown hK hP 3 rfl rfl 4 (by decide) (htt _ tw_105) (fun _ h9 => h9) rfl d_Control_faultReason_28 ?_
      refine lv_aload_n hx hb d_Control_faultReason_31 rfl (lv_at hl 0 rfl) ?_
      refine va_get (D := (dC, dI)) (ci := 0) (v := .ref (A 1)) (C := "CentrifugeUnit$Control") (T := xF0) (N := 14) hx hb htt xin0 hown hK hP 0 rfl rfl 0 (by decide) (htt _ tw_231) (fun _ h9 => h9) rfl d_Control_faultReason_32 ?_
      refine lv_aload_n hx hb d_Control_faultReason_35 rfl (lv_at hl 0 rfl) ?_
      refine va_get (D := (dC, dI)) (ci := 0) (v := .ref (A 19)) (C := "CentrifugeUnit$Control") (T := xF0) (N := 14) hx hb htt xin0 hown hK hP 0 rfl rfl 6 (by decide) (htt _ tw_238) (fun _ h9 => h9) rfl d_Control_faultReason_36 ?_
      refine va_get (D := (dC, dI)) (ci := 6) (v := .int (M.1 23)) (C := "CentrifugeUnit$Run") (T := xF6) (N := 8) hx hb htt xin6 hown hK hP 2 rfl rfl 2 (by decide) (htt _ tw_200) (fun _ h9 => h9) rfl d_Control_faultReason_39 ?_
      have hPc := hP.sub (ws' := [(A 1, xc1 Z A M), (A 4, xc4 Z A M)]) [4, 5] rfl
      have hDc := hD.sub (ws' := [(A 1, xc1 Z A M), (A 4, xc4 Z A M)]) [4, 5] (by decide) rfl
      refine xk_p (va_runV (As := [.int (M.1 23)]) (rest := [.int (M.1 6)]) ⟨hx, hb, hml, hown, hts⟩ (c_Rotors_limitOf l dC dI Z A _ M (M.1 23)) (cwV 1 hts (xw_V _ tw_644 tw_645 tw_646 tw_2 tw_647) rfl rfl rfl (by decide +kernel) ⟨Nat.le_of_ble_eq_true rfl, Nat.le_of_ble_eq_true rfl⟩) ⟨xB_blind, va_recv (q0 := 4) (ci := 5) hK hP rfl rfl, fun U hU hW => ⟨rfl, xB_at hPc hK hDc hq U hU hW⟩⟩ rfl rfl hl.1 rfl (lv_room (Nat.le_of_ble_eq_true rfl)) d_Control_faultReason_42 ⟨Nat.le_of_ble_eq_true rfl, Nat.le_of_ble_eq_true rfl⟩) ?_
      refine lv_topi (fun z4 hz4 => ?_)
      refine lv_icmp_le (tgt := 50) hx hb d_Control_faultReason_45 rfl (fun h5 => ?_) (fun h5 => ?_)
      · refine lv_aload_n hx hb d_Control_faultReason_50 rfl (lv_at hl 0 rfl) ?_
        refine va_get (D := (dC, dI)) (ci := 0) (v := .ref (A 18)) (C := "CentrifugeUnit$Control") (T := xF0) (N := 14) hx hb htt xin0 hown hK hP 0 rfl rfl 5 (by decide) (htt _ tw_236) (fun _ h9 => h9) rfl d_Control_faultReason_51 ?_
        have hPc := hP.sub (ws' := [(A 18, xc18 Z A M)]) [6] rfl
        have hDc := hD.sub (ws' := [(A 18, xc18 Z A M)]) [6] (by decide) rfl
        refine xk_p (va_runV (As := []) (rest := []) ⟨hx, hb, hml, hown, hts⟩ (c_Watch_shakesTooLong l dC dI Z A _ M) (cwV 0 hts (xw_V _ tw_648 tw_649 tw_650 tw_10 tw_651) rfl rfl rfl (by decide +kernel) ⟨Nat.le_of_ble_eq_true rfl, Nat.le_of_ble_eq_true rfl⟩) ⟨xB_blind, va_recv (q0 := 6) (ci := 8) hK hP rfl rfl, fun U hU hW => ⟨rfl, xB_at hPc hK hDc hq U hU hW⟩⟩ rfl rfl hl.1 rfl (lv_room (Nat.le_of_ble_eq_true rfl)) d_Control_faultReason_54 ⟨Nat.le_of_ble_eq_true rfl, Nat.le_of_ble_eq_true rfl⟩) ?_
        refine lv_topi (fun z6 hz6 => ?_)
        refine lv_if_eq (tgt := 62) hx hb d_Control_faultReason_57 rfl (fun h7 => ?_) (fun h7 => ?_)
        · refine lv_aload_n hx hb d_Control_faultReason_62 rfl (lv_at hl 0 rfl) ?_
          refine va_get (D := (dC, dI)) (ci := 0) (v := .ref (A 18)) (C := "CentrifugeUnit$Control") (T := xF0) (N := 14) hx hb htt xin0 hown hK hP 0 rfl rfl 5 (by decide) (htt _ tw_236) (fun _ h9 => h9) rfl d_Control_faultReason_63 ?_
          have hPc := hP.sub (ws' := [(A 18, xc18 Z A M)]) [6] rfl
          have hDc := hD.sub (ws' := [(A 18, xc18 Z A M)]) [6] (by decide) rfl
          refine xk_p (va_runV (As := []) (rest := []) ⟨hx, hb, hml, hown, hts⟩ (c_Watch_differsTooLong l dC dI Z A _ M) (cwV 0 hts (xw_V _ tw_652 tw_653 tw_654 tw_10 tw_655) rfl rfl rfl (by decide +kernel) ⟨Nat.le_of_ble_eq_true rfl, Nat.le_of_ble_eq_true rfl⟩) ⟨xB_blind, va_recv (q0 := 6) (ci := 8) hK hP rfl rfl, fun U hU hW => ⟨rfl, xB_at hPc hK hDc hq U hU hW⟩⟩ rfl rfl hl.1 rfl (lv_room (Nat.le_of_ble_eq_true rfl)) d_Control_faultReason_66 ⟨Nat.le_of_ble_eq_true rfl, Nat.le_of_ble_eq_true rfl⟩) ?_
          refine lv_topi (fun z8 hz8 => ?_)
          refine lv_if_eq (tgt := 76) hx hb d_Control_faultReason_69 rfl (fun h9 => ?_) (fun h9 => ?_)
          · refine lv_iconst (v := 0) hx hb d_Control_faultReason_76 (by decide) ?_
            exact W.iret hx hb hr (fun t ht hW => ⟨(by rw [F_Control_faultReason, ← hz1, F_Control_faultReason_k1, if_neg h2, if_pos h3, ← hz4, F_Control_faultReason_k2, if_pos h5, ← hz6, F_Control_faultReason_k3, if_pos h7, ← hz8, F_Control_faultReason_k4, if_pos h9]), ht⟩) (fun _ h => absurd h List.not_mem_nil) d_Control_faultReason_77
          · refine lv_iconst (v := 5) hx hb d_Control_faultReason_72 (by decide) ?_
            refine lv_goto (tgt := 77) hx hb d_Control_faultReason_73 rfl ?_
            exact W.iret hx hb hr (fun t ht hW => ⟨(by rw [F_Control_faultReason, ← hz1, F_Control_faultReason_k1, if_neg h2, if_pos h3, ← hz4, F_Control_faultReason_k2, if_pos h5, ← hz6, F_Control_faultReason_k3, if_pos h7, ← hz8, F_Control_faultReason_k4, if_neg h9]), ht⟩) (fun _ h => absurd h List.not_mem_nil) d_Control_faultReason_77
        · refine lv_iconst (v := 4) hx hb d_Control_faultReason_60 (by decide) ?_
          exact W.iret hx hb hr (fun t ht hW => ⟨(by rw [F_Control_faultReason, ← hz1, F_Control_faultReason_k1, if_neg h2, if_pos h3, ← hz4, F_Control_faultReason_k2, if_pos h5, ← hz6, F_Control_faultReason_k3, if_neg h7]), ht⟩) (fun _ h => absurd h List.not_mem_nil) d_Control_faultReason_61
      · refine lv_iconst (v := 3) hx hb d_Control_faultReason_48 (by decide) ?_
        exact W.iret hx hb hr (fun t ht hW => ⟨(by rw [F_Control_faultReason, ← hz1, F_Control_faultReason_k1, if_neg h2, if_pos h3, ← hz4, F_Control_faultReason_k2, if_neg h5]), ht⟩) (fun _ h => absurd h List.not_mem_nil) d_Control_faultReason_49
    · refine lv_iconst (v := 2) hx hb d_Control_faultReason_22 (by decide) ?_
      exact W.iret hx hb hr (fun t ht hW => ⟨(by rw [F_Control_faultReason, ← hz1, F_Control_faultReason_k1, if_neg h2, if_neg h3]), ht⟩) (fun _ h => absurd h List.not_mem_nil) d_Control_faultReason_23
  · refine lv_iconst (v := 1) hx hb d_Control_faultReason_10 (by decide) ?_
    exact W.iret hx hb hr (fun t ht hW => ⟨(by rw [F_Control_faultReason, ← hz1, F_Control_faultReason_k1, if_pos h2]), ht⟩) (fun _ h => absurd h List.not_mem_nil) d_Control_faultReason_11
abbrev bc_Control_lookForFault : ByteArray := prog_2_method_10_code
def y_Control_lookForFault : MethodName := ⟨"CentrifugeUnit$Control", "lookForFault", "()V"⟩
theorem d_Control_lookForFault_0 : decode bc_Control_lookForFault 0 = .ok (.aload_n 0, 1) := by decide +kernel
theorem d_Control_lookForFault_1 : decode bc_Control_lookForFault 1 = .ok (.invokevirtual 112, 3) := by decide +kernel
theorem d_Control_lookForFault_4 : decode bc_Control_lookForFault 4 = .ok (.ifCond .ne 4, 3) := by decide +kernel
theorem d_Control_lookForFault_7 : decode bc_Control_lookForFault 7 = .ok (.return_, 1) := by decide +kernel
theorem d_Control_lookForFault_8 : decode bc_Control_lookForFault 8 = .ok (.aload_n 0, 1) := by decide +kernel
theorem d_Control_lookForFault_9 : decode bc_Control_lookForFault 9 = .ok (.invokevirtual 130, 3) := by decide +kernel
theorem d_Control_lookForFault_12 : decode bc_Control_lookForFault 12 = .ok (.istore_n 1, 1) := by decide +kernel
theorem d_Control_lookForFault_13 : decode bc_Control_lookForFault 13 = .ok (.iload_n 1, 1) := by decide +kernel
theorem d_Control_lookForFault_14 : decode bc_Control_lookForFault 14 = .ok (.ifCond .eq 13, 3) := by decide +kernel
theorem d_Control_lookForFault_17 : decode bc_Control_lookForFault 17 = .ok (.aload_n 0, 1) := by decide +kernel
theorem d_Control_lookForFault_18 : decode bc_Control_lookForFault 18 = .ok (.iconst 3, 1) := by decide +kernel
theorem d_Control_lookForFault_19 : decode bc_Control_lookForFault 19 = .ok (.putfield 33, 3) := by decide +kernel
theorem d_Control_lookForFault_22 : decode bc_Control_lookForFault 22 = .ok (.aload_n 0, 1) := by decide +kernel
theorem d_Control_lookForFault_23 : decode bc_Control_lookForFault 23 = .ok (.iload_n 1, 1) := by decide +kernel
theorem d_Control_lookForFault_24 : decode bc_Control_lookForFault 24 = .ok (.putfield 36, 3) := by decide +kernel
theorem d_Control_lookForFault_27 : decode bc_Control_lookForFault 27 = .ok (.return_, 1) := by decide +kernel
abbrev ap_Control_lookForFault (M : XM) (u : (Int32 × Int32)) : XM := ((va_up (va_up M.1 14 (u.1)) 15 (u.2)), M.2)
def F_Control_lookForFault_k2 (M : XM) (z1 : Int32) (z3 : Int32) : (Int32 × Int32) := (if z3 = 0 then ((M.1 14), (M.1 15)) else (3, z3))
def F_Control_lookForFault_k1 (M : XM) (z1 : Int32) : (Int32 × Int32) := (if z1 = 0 then ((M.1 14), (M.1 15)) else (F_Control_lookForFault_k2 M z1 (F_Control_faultReason M)))
def F_Control_lookForFault (M : XM) : (Int32 × Int32) := (F_Control_lookForFault_k1 M (F_Control_turning M))
set_option maxHeartbeats 4000000 in
set_option maxRecDepth 100000 in
theorem c_Control_lookForFault (l : Launch) (dC : Nat → ClassId) (dI : Nat → Nat → Nat) (Z : Nat → ClassId) (A : Nat → Nat) (sz : Nat) (M : XM) : Met l y_Control_lookForFault (.code y_Control_lookForFault bc_Control_lookForFault 2 none :: xw) ({ frames := 4, cells := 0, slots := 0, locals := 83 }) (va_Pc [.ref (A 17)] (xB (dC, dI) xcl (xty Z) sz [(A 17, xc17 Z A M), (A 12, xc12 Z A M), (A 19, xc19 Z A M), (A 11, xc11 Z A M), (A 1, xc1 Z A M), (A 4, xc4 Z A M), (A 18, xc18 Z A M)])) (va_Qv (fun u : (Int32 × Int32) => u = F_Control_lookForFault M) (fun u => xE (dC, dI) xcl (xty Z) (va_A [(A 17, xc17 Z A M), (A 12, xc12 Z A M), (A 19, xc19 Z A M), (A 11, xc11 Z A M), (A 1, xc1 Z A M), (A 4, xc4 Z A M), (A 18, xc18 Z A M)] sz) [(A 17, xc17 Z A (ap_Control_lookForFault M u)), (A 12, xc12 Z A (ap_Control_lookForFault M u)), (A 19, xc19 Z A (ap_Control_lookForFault M u)), (A 11, xc11 Z A (ap_Control_lookForFault M u)), (A 1, xc1 Z A (ap_Control_lookForFault M u)), (A 4, xc4 Z A (ap_Control_lookForFault M u)), (A 18, xc18 Z A (ap_Control_lookForFault M u))]) (va_A [(A 17, xc17 Z A M), (A 12, xc12 Z A M), (A 19, xc19 Z A M), (A 11, xc11 Z A M), (A 1, xc1 Z A M), (A 4, xc4 Z A M), (A 18, xc18 Z A M)] sz)) 0 0 (va_A [(A 17, xc17 Z A M), (A 12, xc12 Z A M), (A 19, xc19 Z A M), (A 11, xc11 Z A M), (A 1, xc1 Z A M), (A 4, xc4 Z A M), (A 18, xc18 Z A M)] sz) := by
  refine Met.ofW (cc := bc_Control_lookForFault) (maxL := 2) (ret := none) (by decide) rfl ?_
  intro p e s m args below meth c s₁ B hml hv
  obtain ⟨rfl, hsz, hP, hK, hD0, hq⟩ := hv
  have hx := B.exec
  have hb := B.bytes
  have hr := B.returns
  have hts := atoms_spec (ws := (.code y_Control_lookForFault bc_Control_lookForFault 2 none :: xw)) B.pre
  have htt : ∀ w ∈ xw, w.before _ s = true := fun w h => hts w (List.mem_cons_of_mem _ h)
  have hown : s.vm.findClass "CentrifugeUnit$Control" = some m.cls := findClass_of_methodNamed B.named
  have hlocks := B.notSynchronized
  subst hsz
  have hD := hD0.self (sz := s.heap.size)
  generalize hAe : va_A [(A 17, xc17 Z A M), (A 12, xc12 Z A M), (A 19, xc19 Z A M), (A 11, xc11 Z A M), (A 1, xc1 Z A M), (A 4, xc4 Z A M), (A 18, xc18 Z A M)] s.heap.size = AA at hD ⊢
  have hA : ∀ q : Nat, s.heap.size ≤ q → AA q := fun q h => by rw [← hAe]; exact Or.inr h
  have hS : va_S AA s.heap s.heap [] := va_S.rf
  have hP : va_P (dC, dI) xcl [(A 17, .inr (0, [.ref (A 1), .ref (A 6), .ref (A 11), .ref (A 12), .ref (A 13), .ref (A 18), .ref (A 19), .int (M.1 12), .int (M.1 13), .int (M.1 14), .int (M.1 15), .int (M.1 16), .int (M.1 17), .int (M.1 18)])), (A 12, .inr (1, [.int (M.1 8), .int (M.1 9), .int (M.1 10)])), (A 19, .inr (6, [.long (M.2.1 1), .long (M.2.1 2), .int (M.1 23), .int (M.1 24), .int (M.1 25), .int (M.1 26), .int (M.1 27), .int (M.1 28)])), (A 11, .inr (7, [.int (M.1 2), .int (M.1 3), .int (M.1 4), .int (M.1 5), .int (M.1 6), .int (M.1 7)])), (A 1, .inr (5, [.ref (A 2), .ref (A 3), .ref (A 4), .ref (A 5), .int (M.1 0)])), (A 4, .inl (Z 0, 4, .inl (M.2.2.1 4))), (A 18, .inr (8, [.int (M.1 19), .int (M.1 20), .int (M.1 21), .int (M.1 22)]))] s.heap := hP
  have hD : va_D AA [(A 17, .inr (0, [.ref (A 1), .ref (A 6), .ref (A 11), .ref (A 12), .ref (A 13), .ref (A 18), .ref (A 19), .int (M.1 12), .int (M.1 13), .int (M.1 14), .int (M.1 15), .int (M.1 16), .int (M.1 17), .int (M.1 18)])), (A 12, .inr (1, [.int (M.1 8), .int (M.1 9), .int (M.1 10)])), (A 19, .inr (6, [.long (M.2.1 1), .long (M.2.1 2), .int (M.1 23), .int (M.1 24), .int (M.1 25), .int (M.1 26), .int (M.1 27), .int (M.1 28)])), (A 11, .inr (7, [.int (M.1 2), .int (M.1 3), .int (M.1 4), .int (M.1 5), .int (M.1 6), .int (M.1 7)])), (A 1, .inr (5, [.ref (A 2), .ref (A 3), .ref (A 4), .ref (A 5), .int (M.1 0)])), (A 4, .inl (Z 0, 4, .inl (M.2.2.1 4))), (A 18, .inr (8, [.int (M.1 19), .int (M.1 20), .int (M.1 21), .int (M.1 22)]))] := hD
  have hl := lv_entry ([.ref (A 17)]) (n := 2) (Nat.le_of_ble_eq_true rfl)
  rw [lg_entry_eq]
  generalize (lg_sl ([.ref (A 17)]) ++ List.replicate (2 - (lg_sl ([.ref (A 17)])).length) Slot.unset).toArray = ls at hl ⊢
  have hl : lv_has ls 2 [(0, .ref (A 17))] := hl
  refine lv_aload_n hx hb d_Control_lookForFault_0 rfl (lv_at hl 0 rfl) ?_
  have hPc := hP.sub (ws' := [(A 17, xc17 Z A M)]) [0] rfl
  have hDc := hD.sub (ws' := [(A 17, xc17 Z A M)]) [0] (by decide) rfl
  refine xk_p (va_runV (As := []) (rest := []) ⟨hx, hb, hml, hown, hts⟩ (c_Control_turning l dC dI Z A _ M) (cwV 0 hts (xw_V _ tw_620 tw_622 tp_2 tw_9 tw_623) rfl rfl rfl (by decide +kernel) ⟨Nat.le_of_ble_eq_true rfl, Nat.le_of_ble_eq_true rfl⟩) ⟨xB_blind, va_recv (q0 := 0) (ci := 0) hK hP rfl rfl, fun U hU hW => ⟨rfl, xB_at hPc hK hDc hq U hU hW⟩⟩ rfl rfl hl.1 rfl (lv_room (Nat.le_of_ble_eq_true rfl)) d_Control_lookForFault_1 ⟨Nat.le_of_ble_eq_true rfl, Nat.le_of_ble_eq_true rfl⟩) ?_
  refine lv_topi (fun z1 hz1 => ?_)
  refine lv_if_ne (tgt := 8) hx hb d_Control_lookForFault_4 rfl (fun h2 => ?_) (fun h2 => ?_)
  · refine lv_aload_n hx hb d_Control_lookForFault_8 rfl (lv_at hl 0 rfl) ?_
    have hPc := hP.sub (ws' := [(A 17, xc17 Z A M), (A 12, xc12 Z A M), (A 19, xc19 Z A M), (A 11, xc11 Z A M), (A 1, xc1 Z A M), (A 4, xc4 Z A M), (A 18, xc18 Z A M)]) [0, 1, 2, 3, 4, 5, 6] rfl
    have hDc := hD.sub (ws' := [(A 17, xc17 Z A M), (A 12, xc12 Z A M), (A 19, xc19 Z A M), (A 11, xc11 Z A M), (A 1, xc1 Z A M), (A 4, xc4 Z A M), (A 18, xc18 Z A M)]) [0, 1, 2, 3, 4, 5, 6] (by decide) rfl
    refine xk_p (va_runV (As := []) (rest := []) ⟨hx, hb, hml, hown, hts⟩ (c_Control_faultReason l dC dI Z A _ M) (cwV 0 hts (xw_V _ tw_639 tw_641 tp_4 tw_9 tw_642) rfl rfl rfl (by decide +kernel) ⟨Nat.le_of_ble_eq_true rfl, Nat.le_of_ble_eq_true rfl⟩) ⟨xB_blind, va_recv (q0 := 0) (ci := 0) hK hP rfl rfl, fun U hU hW => ⟨rfl, xB_at hPc hK hDc hq U hU hW⟩⟩ rfl rfl hl.1 rfl (lv_room (Nat.le_of_ble_eq_true rfl)) d_Control_lookForFault_9 ⟨Nat.le_of_ble_eq_true rfl, Nat.le_of_ble_eq_true rfl⟩) ?_
    refine lv_topi (fun z3 hz3 => ?_)
    refine lv_istore_n (lv' := [(1, .int z3), (0, .ref (A 17))]) hx hb d_Control_lookForFault_12 rfl hl (by decide) rfl (fun ls hl => ?_)
    refine lv_iload_n hx hb d_Control_lookForFault_13 rfl (lv_at hl 0 rfl) ?_
    refine lv_if_eq (tgt := 27) hx hb d_Control_lookForFault_14 rfl (fun h4 => ?_) (fun h4 => ?_)
    · have hP9 := hP.sub (ws' := [(A 17, xc17 Z A (ap_Control_lookForFault M ((M.1 14), (M.1 15)))), (A 12, xc12 Z A (ap_Control_lookForFault M ((M.1 14), (M.1 15)))), (A 19, xc19 Z A (ap_Control_lookForFault M ((M.1 14), (M.1 15)))), (A 11, xc11 Z A (ap_Control_lookForFault M ((M.1 14), (M.1 15)))), (A 1, xc1 Z A (ap_Control_lookForFault M ((M.1 14), (M.1 15)))), (A 4, xc4 Z A (ap_Control_lookForFault M ((M.1 14), (M.1 15)))), (A 18, xc18 Z A (ap_Control_lookForFault M ((M.1 14), (M.1 15))))]) [0, 1, 2, 3, 4, 5, 6] rfl
      have hD9 := hD.sub (ws' := [(A 17, xc17 Z A (ap_Control_lookForFault M ((M.1 14), (M.1 15)))), (A 12, xc12 Z A (ap_Control_lookForFault M ((M.1 14), (M.1 15)))), (A 19, xc19 Z A (ap_Control_lookForFault M ((M.1 14), (M.1 15)))), (A 11, xc11 Z A (ap_Control_lookForFault M ((M.1 14), (M.1 15)))), (A 1, xc1 Z A (ap_Control_lookForFault M ((M.1 14), (M.1 15)))), (A 4, xc4 Z A (ap_Control_lookForFault M ((M.1 14), (M.1 15)))), (A 18, xc18 Z A (ap_Control_lookForFault M ((M.1 14), (M.1 15))))]) [0, 1, 2, 3, 4, 5, 6] (by decide) rfl
      exact W.vret hx hb hr (fun t ht hW => ⟨⟨((M.1 14), (M.1 15)), rfl, (by rw [F_Control_lookForFault, ← hz1, F_Control_lookForFault_k1, if_neg h2, ← hz3, F_Control_lookForFault_k2, if_pos h4]), xE_at hP9 hK hD9 ht hW⟩, hS.F ht⟩) hS.2.2 d_Control_lookForFault_27
    · refine lv_aload_n hx hb d_Control_lookForFault_17 rfl (lv_at hl 1 rfl) ?_
      refine lv_iconst (v := 3) hx hb d_Control_lookForFault_18 (by decide) ?_
      refine va_put (D := (dC, dI)) (ci := 0) (v := .int 3) (ty := .int) (C := "CentrifugeUnit$Control") (T := xF0) (N := 14) hx hb htt xin0 xT0 xTo0 xNm0 hown hK hP hD hS 0 rfl rfl 9 (by decide) (htt _ tw_244) (fun _ h9 => h9) rfl (by decide +kernel) rfl rfl (Nat.le_of_ble_eq_true rfl) d_Control_lookForFault_19 (fun H locs hP hD hS => ?_)
      have hP : va_P (dC, dI) xcl [(A 17, .inr (0, [.ref (A 1), .ref (A 6), .ref (A 11), .ref (A 12), .ref (A 13), .ref (A 18), .ref (A 19), .int (M.1 12), .int (M.1 13), .int 3, .int (M.1 15), .int (M.1 16), .int (M.1 17), .int (M.1 18)])), (A 12, .inr (1, [.int (M.1 8), .int (M.1 9), .int (M.1 10)])), (A 19, .inr (6, [.long (M.2.1 1), .long (M.2.1 2), .int (M.1 23), .int (M.1 24), .int (M.1 25), .int (M.1 26), .int (M.1 27), .int (M.1 28)])), (A 11, .inr (7, [.int (M.1 2), .int (M.1 3), .int (M.1 4), .int (M.1 5), .int (M.1 6), .int (M.1 7)])), (A 1, .inr (5, [.ref (A 2), .ref (A 3), .ref (A 4), .ref (A 5), .int (M.1 0)])), (A 4, .inl (Z 0, 4, .inl (M.2.2.1 4))), (A 18, .inr (8, [.int (M.1 19), .int (M.1 20), .int (M.1 21), .int (M.1 22)]))] H := hP
      have hD : va_D AA [(A 17, .inr (0, [.ref (A 1), .ref (A 6), .ref (A 11), .ref (A 12), .ref (A 13), .ref (A 18), .ref (A 19), .int (M.1 12), .int (M.1 13), .int 3, .int (M.1 15), .int (M.1 16), .int (M.1 17), .int (M.1 18)])), (A 12, .inr (1, [.int (M.1 8), .int (M.1 9), .int (M.1 10)])), (A 19, .inr (6, [.long (M.2.1 1), .long (M.2.1 2), .int (M.1 23), .int (M.1 24), .int (M.1 25), .int (M.1 26), .int (M.1 27), .int (M.1 28)])), (A 11, .inr (7, [.int (M.1 2), .int (M.1 3), .int (M.1 4), .int (M.1 5), .int (M.1 6), .int (M.1 7)])), (A 1, .inr (5, [.ref (A 2), .ref (A 3), .ref (A 4), .ref (A 5), .int (M.1 0)])), (A 4, .inl (Z 0, 4, .inl (M.2.2.1 4))), (A 18, .inr (8, [.int (M.1 19), .int (M.1 20), .int (M.1 21), .int (M.1 22)]))] := hD
      refine lv_aload_n hx hb d_Control_lookForFault_22 rfl (lv_at hl 1 rfl) ?_
      refine lv_iload_n hx hb d_Control_lookForFault_23 rfl (lv_at hl 0 rfl) ?_
      refine va_put (D := (dC, dI)) (ci := 0) (v := .int z3) (ty := .int) (C := "CentrifugeUnit$Control") (T := xF0) (N := 14) hx hb htt xin0 xT0 xTo0 xNm0 hown hK hP hD hS 0 rfl rfl 10 (by decide) (htt _ tw_246) (fun _ h9 => h9) rfl (by decide +kernel) rfl rfl (Nat.le_of_ble_eq_true rfl) d_Control_lookForFault_24 (fun H locs hP hD hS => ?_)
      have hP : va_P (dC, dI) xcl [(A 17, .inr (0, [.ref (A 1), .ref (A 6), .ref (A 11), .ref (A 12), .ref (A 13), .ref (A 18), .ref (A 19), .int (M.1 12), .int (M.1 13), .int 3, .int z3, .int (M.1 16), .int (M.1 17), .int (M.1 18)])), (A 12, .inr (1, [.int (M.1 8), .int (M.1 9), .int (M.1 10)])), (A 19, .inr (6, [.long (M.2.1 1), .long (M.2.1 2), .int (M.1 23), .int (M.1 24), .int (M.1 25), .int (M.1 26), .int (M.1 27), .int (M.1 28)])), (A 11, .inr (7, [.int (M.1 2), .int (M.1 3), .int (M.1 4), .int (M.1 5), .int (M.1 6), .int (M.1 7)])), (A 1, .inr (5, [.ref (A 2), .ref (A 3), .ref (A 4), .ref (A 5), .int (M.1 0)])), (A 4, .inl (Z 0, 4, .inl (M.2.2.1 4))), (A 18, .inr (8, [.int (M.1 19), .int (M.1 20), .int (M.1 21), .int (M.1 22)]))] H := hP
      have hD : va_D AA [(A 17, .inr (0, [.ref (A 1), .ref (A 6), .ref (A 11), .ref (A 12), .ref (A 13), .ref (A 18), .ref (A 19), .int (M.1 12), .int (M.1 13), .int 3, .int z3, .int (M.1 16), .int (M.1 17), .int (M.1 18)])), (A 12, .inr (1, [.int (M.1 8), .int (M.1 9), .int (M.1 10)])), (A 19, .inr (6, [.long (M.2.1 1), .long (M.2.1 2), .int (M.1 23), .int (M.1 24), .int (M.1 25), .int (M.1 26), .int (M.1 27), .int (M.1 28)])), (A 11, .inr (7, [.int (M.1 2), .int (M.1 3), .int (M.1 4), .int (M.1 5), .int (M.1 6), .int (M.1 7)])), (A 1, .inr (5, [.ref (A 2), .ref (A 3), .ref (A 4), .ref (A 5), .int (M.1 0)])), (A 4, .inl (Z 0, 4, .inl (M.2.2.1 4))), (A 18, .inr (8, [.int (M.1 19), .int (M.1 20), .int (M.1 21), .int (M.1 22)]))] := hD
      have hP9 := hP.sub (ws' := [(A 17, xc17 Z A (ap_Control_lookForFault M (3, z3))), (A 12, xc12 Z A (ap_Control_lookForFault M (3, z3))), (A 19, xc19 Z A (ap_Control_lookForFault M (3, z3))), (A 11, xc11 Z A (ap_Control_lookForFault M (3, z3))), (A 1, xc1 Z A (ap_Control_lookForFault M (3, z3))), (A 4, xc4 Z A (ap_Control_lookForFault M (3, z3))), (A 18, xc18 Z A (ap_Control_lookForFault M (3, z3)))]) [0, 1, 2, 3, 4, 5, 6] rfl
      have hD9 := hD.sub (ws' := [(A 17, xc17 Z A (ap_Control_lookForFault M (3, z3))), (A 12, xc12 Z A (ap_Control_lookForFault M (3, z3))), (A 19, xc19 Z A (ap_Control_lookForFault M (3, z3))), (A 11, xc11 Z A (ap_Control_lookForFault M (3, z3))), (A 1, xc1 Z A (ap_Control_lookForFault M (3, z3))), (A 4, xc4 Z A (ap_Control_lookForFault M (3, z3))), (A 18, xc18 Z A (ap_Control_lookForFault M (3, z3)))]) [0, 1, 2, 3, 4, 5, 6] (by decide) rfl
      exact W.vret hx hb hr (fun t ht hW => ⟨⟨(3, z3), rfl, (by rw [F_Control_lookForFault, ← hz1, F_Control_lookForFault_k1, if_neg h2, ← hz3, F_Control_lookForFault_k2, if_neg h4]), xE_at hP9 hK hD9 ht hW⟩, hS.F ht⟩) hS.2.2 d_Control_lookForFault_27
  · have hP9 := hP.sub (ws' := [(A 17, xc17 Z A (ap_Control_lookForFault M ((M.1 14), (M.1 15)))), (A 12, xc12 Z A (ap_Control_lookForFault M ((M.1 14), (M.1 15)))), (A 19, xc19 Z A (ap_Control_lookForFault M ((M.1 14), (M.1 15)))), (A 11, xc11 Z A (ap_Control_lookForFault M ((M.1 14), (M.1 15)))), (A 1, xc1 Z A (ap_Control_lookForFault M ((M.1 14), (M.1 15)))), (A 4, xc4 Z A (ap_Control_lookForFault M ((M.1 14), (M.1 15)))), (A 18, xc18 Z A (ap_Control_lookForFault M ((M.1 14), (M.1 15))))]) [0, 1, 2, 3, 4, 5, 6] rfl
    have hD9 := hD.sub (ws' := [(A 17, xc17 Z A (ap_Control_lookForFault M ((M.1 14), (M.1 15)))), (A 12, xc12 Z A (ap_Control_lookForFault M ((M.1 14), (M.1 15)))), (A 19, xc19 Z A (ap_Control_lookForFault M ((M.1 14), (M.1 15)))), (A 11, xc11 Z A (ap_Control_lookForFault M ((M.1 14), (M.1 15)))), (A 1, xc1 Z A (ap_Control_lookForFault M ((M.1 14), (M.1 15)))), (A 4, xc4 Z A (ap_Control_lookForFault M ((M.1 14), (M.1 15)))), (A 18, xc18 Z A (ap_Control_lookForFault M ((M.1 14), (M.1 15))))]) [0, 1, 2, 3, 4, 5, 6] (by decide) rfl
    exact W.vret hx hb hr (fun t ht hW => ⟨⟨((M.1 14), (M.1 15)), rfl, (by rw [F_Control_lookForFault, ← hz1, F_Control_lookForFault_k1, if_pos h2]), xE_at hP9 hK hD9 ht hW⟩, hS.F ht⟩) hS.2.2 d_Control_lookForFault_7
abbrev bc_Control_addDose : ByteArray := prog_2_method_12_code
def y_Control_addDose : MethodName := ⟨"CentrifugeUnit$Control", "addDose", "()V"⟩
theorem d_Control_addDose_0 : decode bc_Control_addDose 0 = .ok (.aload_n 0, 1) := by decide +kernel
theorem d_Control_addDose_1 : decode bc_Control_addDose 1 = .ok (.getfield 33, 3) := by decide +kernel
theorem d_Control_addDose_4 : decode bc_Control_addDose 4 = .ok (.iconst 1, 1) := by decide +kernel
theorem d_Control_addDose_5 : decode bc_Control_addDose 5 = .ok (.if_icmp .ne 43, 3) := by decide +kernel
theorem d_Control_addDose_8 : decode bc_Control_addDose 8 = .ok (.aload_n 0, 1) := by decide +kernel
theorem d_Control_addDose_9 : decode bc_Control_addDose 9 = .ok (.getfield 47, 3) := by decide +kernel
theorem d_Control_addDose_12 : decode bc_Control_addDose 12 = .ok (.getfield 155, 3) := by decide +kernel
theorem d_Control_addDose_15 : decode bc_Control_addDose 15 = .ok (.i2l, 1) := by decide +kernel
theorem d_Control_addDose_16 : decode bc_Control_addDose 16 = .ok (.lstore_n 1, 1) := by decide +kernel
theorem d_Control_addDose_17 : decode bc_Control_addDose 17 = .ok (.aload_n 0, 1) := by decide +kernel
theorem d_Control_addDose_18 : decode bc_Control_addDose 18 = .ok (.getfield 21, 3) := by decide +kernel
theorem d_Control_addDose_21 : decode bc_Control_addDose 21 = .ok (.dup, 1) := by decide +kernel
theorem d_Control_addDose_22 : decode bc_Control_addDose 22 = .ok (.getfield 158, 3) := by decide +kernel
theorem d_Control_addDose_25 : decode bc_Control_addDose 25 = .ok (.aload_n 0, 1) := by decide +kernel
theorem d_Control_addDose_26 : decode bc_Control_addDose 26 = .ok (.getfield 39, 3) := by decide +kernel
theorem d_Control_addDose_29 : decode bc_Control_addDose 29 = .ok (.aload_n 0, 1) := by decide +kernel
theorem d_Control_addDose_30 : decode bc_Control_addDose 30 = .ok (.getfield 21, 3) := by decide +kernel
theorem d_Control_addDose_33 : decode bc_Control_addDose 33 = .ok (.getfield 140, 3) := by decide +kernel
theorem d_Control_addDose_36 : decode bc_Control_addDose 36 = .ok (.invokevirtual 161, 3) := by decide +kernel
theorem d_Control_addDose_39 : decode bc_Control_addDose 39 = .ok (.i2l, 1) := by decide +kernel
theorem d_Control_addDose_40 : decode bc_Control_addDose 40 = .ok (.lload_n 1, 1) := by decide +kernel
theorem d_Control_addDose_41 : decode bc_Control_addDose 41 = .ok (.lmul, 1) := by decide +kernel
theorem d_Control_addDose_42 : decode bc_Control_addDose 42 = .ok (.lload_n 1, 1) := by decide +kernel
theorem d_Control_addDose_43 : decode bc_Control_addDose 43 = .ok (.lmul, 1) := by decide +kernel
theorem d_Control_addDose_44 : decode bc_Control_addDose 44 = .ok (.ladd, 1) := by decide +kernel
theorem d_Control_addDose_45 : decode bc_Control_addDose 45 = .ok (.putfield 158, 3) := by decide +kernel
theorem d_Control_addDose_48 : decode bc_Control_addDose 48 = .ok (.return_, 1) := by decide +kernel
abbrev ap_Control_addDose (M : XM) (u : Int64) : XM := (M.1, (va_up M.2.1 1 u), M.2.2)
def F_Control_addDose_k1 (M : XM) (z2 : Int32) : (Int64) := ((M.2.1 1) + (((z2).toInt64 * ((M.1 7)).toInt64) * ((M.1 7)).toInt64))
def F_Control_addDose (M : XM) : (Int64) := (if (M.1 14) = 1 then (F_Control_addDose_k1 M (F_Rotors_radiusOf M (M.1 23))) else (M.2.1 1))
set_option maxHeartbeats 4000000 in
set_option maxRecDepth 100000 in
theorem c_Control_addDose (l : Launch) (dC : Nat → ClassId) (dI : Nat → Nat → Nat) (Z : Nat → ClassId) (A : Nat → Nat) (sz : Nat) (M : XM) : Met l y_Control_addDose (.code y_Control_addDose bc_Control_addDose 3 none :: xw) ({ frames := 3, cells := 0, slots := 0, locals := 63 }) (va_Pc [.ref (A 17)] (xB (dC, dI) xcl (xty Z) sz [(A 17, xc17 Z A M), (A 11, xc11 Z A M), (A 19, xc19 Z A M), (A 1, xc1 Z A M), (A 3, xc3 Z A M)])) (va_Qv (fun u : Int64 => u = F_Control_addDose M) (fun u => xE (dC, dI) xcl (xty Z) (va_A [(A 17, xc17 Z A M), (A 11, xc11 Z A M), (A 19, xc19 Z A M), (A 1, xc1 Z A M), (A 3, xc3 Z A M)] sz) [(A 17, xc17 Z A (ap_Control_addDose M u)), (A 11, xc11 Z A (ap_Control_addDose M u)), (A 19, xc19 Z A (ap_Control_addDose M u)), (A 1, xc1 Z A (ap_Control_addDose M u)), (A 3, xc3 Z A (ap_Control_addDose M u))]) (va_A [(A 17, xc17 Z A M), (A 11, xc11 Z A M), (A 19, xc19 Z A M), (A 1, xc1 Z A M), (A 3, xc3 Z A M)] sz)) 0 0 (va_A [(A 17, xc17 Z A M), (A 11, xc11 Z A M), (A 19, xc19 Z A M), (A 1, xc1 Z A M), (A 3, xc3 Z A M)] sz) := by
  refine Met.ofW (cc := bc_Control_addDose) (maxL := 3) (ret := none) (by decide) rfl ?_
  intro p e s m args below meth c s₁ B hml hv
  obtain ⟨rfl, hsz, hP, hK, hD0, hq⟩ := hv
  have hx := B.exec
  have hb := B.bytes
  have hr := B.returns
  have hts := atoms_spec (ws := (.code y_Control_addDose bc_Control_addDose 3 none :: xw)) B.pre
  have htt : ∀ w ∈ xw, w.before _ s = true := fun w h => hts w (List.mem_cons_of_mem _ h)
  have hown : s.vm.findClass "CentrifugeUnit$Control" = some m.cls := findClass_of_methodNamed B.named
  have hlocks := B.notSynchronized
  subst hsz
  have hD := hD0.self (sz := s.heap.size)
  generalize hAe : va_A [(A 17, xc17 Z A M), (A 11, xc11 Z A M), (A 19, xc19 Z A M), (A 1, xc1 Z A M), (A 3, xc3 Z A M)] s.heap.size = AA at hD ⊢
  have hA : ∀ q : Nat, s.heap.size ≤ q → AA q := fun q h => by rw [← hAe]; exact Or.inr h
  have hS : va_S AA s.heap s.heap [] := va_S.rf
  have hP : va_P (dC, dI) xcl [(A 17, .inr (0, [.ref (A 1), .ref (A 6), .ref (A 11), .ref (A 12), .ref (A 13), .ref (A 18), .ref (A 19), .int (M.1 12), .int (M.1 13), .int (M.1 14), .int (M.1 15), .int (M.1 16), .int (M.1 17), .int (M.1 18)])), (A 11, .inr (7, [.int (M.1 2), .int (M.1 3), .int (M.1 4), .int (M.1 5), .int (M.1 6), .int (M.1 7)])), (A 19, .inr (6, [.long (M.2.1 1), .long (M.2.1 2), .int (M.1 23), .int (M.1 24), .int (M.1 25), .int (M.1 26), .int (M.1 27), .int (M.1 28)])), (A 1, .inr (5, [.ref (A 2), .ref (A 3), .ref (A 4), .ref (A 5), .int (M.1 0)])), (A 3, .inl (Z 0, 4, .inl (M.2.2.1 3)))] s.heap := hP
  have hD : va_D AA [(A 17, .inr (0, [.ref (A 1), .ref (A 6), .ref (A 11), .ref (A 12), .ref (A 13), .ref (A 18), .ref (A 19), .int (M.1 12), .int (M.1 13), .int (M.1 14), .int (M.1 15), .int (M.1 16), .int (M.1 17), .int (M.1 18)])), (A 11, .inr (7, [.int (M.1 2), .int (M.1 3), .int (M.1 4), .int (M.1 5), .int (M.1 6), .int (M.1 7)])), (A 19, .inr (6, [.long (M.2.1 1), .long (M.2.1 2), .int (M.1 23), .int (M.1 24), .int (M.1 25), .int (M.1 26), .int (M.1 27), .int (M.1 28)])), (A 1, .inr (5, [.ref (A 2), .ref (A 3), .ref (A 4), .ref (A 5), .int (M.1 0)])), (A 3, .inl (Z 0, 4, .inl (M.2.2.1 3)))] := hD
  have hl := lv_entry ([.ref (A 17)]) (n := 3) (Nat.le_of_ble_eq_true rfl)
  rw [lg_entry_eq]
  generalize (lg_sl ([.ref (A 17)]) ++ List.replicate (3 - (lg_sl ([.ref (A 17)])).length) Slot.unset).toArray = ls at hl ⊢
  have hl : lv_has ls 3 [(0, .ref (A 17))] := hl
  refine lv_aload_n hx hb d_Control_addDose_0 rfl (lv_at hl 0 rfl) ?_
  refine va_get (D := (dC, dI)) (ci := 0) (v := .int (M.1 14)) (C := "CentrifugeUnit$Control") (T := xF0) (N := 14) hx hb htt xin0 hown hK hP 0 rfl rfl 9 (by decide) (htt _ tw_244) (fun _ h9 => h9) rfl d_Control_addDose_1 ?_
  refine lv_iconst (v := 1) hx hb d_Control_addDose_4 (by decide) ?_
  refine lv_icmp_ne (tgt := 48) hx hb d_Control_addDose_5 rfl (fun h1 => ?_) (fun h1 => ?_)
  · have hP9 := hP.sub (ws' := [(A 17, xc17 Z A (ap_Control_addDose M (M.2.1 1))), (A 11, xc11 Z A (ap_Control_addDose M (M.2.1 1))), (A 19, xc19 Z A (ap_Control_addDose M (M.2.1 1))), (A 1, xc1 Z A (ap_Control_addDose M (M.2.1 1))), (A 3, xc3 Z A (ap_Control_addDose M (M.2.1 1)))]) [0, 1, 2, 3, 4] rfl
    have hD9 := hD.sub (ws' := [(A 17, xc17 Z A (ap_Control_addDose M (M.2.1 1))), (A 11, xc11 Z A (ap_Control_addDose M (M.2.1 1))), (A 19, xc19 Z A (ap_Control_addDose M (M.2.1 1))), (A 1, xc1 Z A (ap_Control_addDose M (M.2.1 1))), (A 3, xc3 Z A (ap_Control_addDose M (M.2.1 1)))]) [0, 1, 2, 3, 4] (by decide) rfl
    exact W.vret hx hb hr (fun t ht hW => ⟨⟨(M.2.1 1), rfl, (by rw [F_Control_addDose, if_neg h1]), xE_at hP9 hK hD9 ht hW⟩, hS.F ht⟩) hS.2.2 d_Control_addDose_48
  · refine lv_aload_n hx hb d_Control_addDose_8 rfl (lv_at hl 0 rfl) ?_
    refine va_get (D := (dC, dI)) (ci := 0) (v := .ref (A 11)) (C := "CentrifugeUnit$Control") (T := xF0) (N := 14) hx hb htt xin0 hown hK hP 0 rfl rfl 2 (by decide) (htt _ tw_233) (fun _ h9 => h9) rfl d_Control_addDose_9 ?_
    refine va_get (D := (dC, dI)) (ci := 7) (v := .int (M.1 7)) (C := "CentrifugeUnit$Sensors") (T := xF7) (N := 6) hx hb htt xin7 hown hK hP 1 rfl rfl 5 (by decide) (htt _ tw_109) (fun _ h9 => h9) rfl d_Control_addDose_12 ?_
    refine lv_i2l (v := ((M.1 7)).toInt64) hx hb d_Control_addDose_15 rfl ?_
    refine lv_lstore_n (lv' := [(1, .long ((M.1 7)).toInt64), (0, .ref (A 17))]) hx hb d_Control_addDose_16 rfl hl (by decide) rfl (fun ls hl => ?_)
    refine lv_aload_n hx hb d_Control_addDose_17 rfl (lv_at hl 1 rfl) ?_
    refine va_get (D := (dC, dI)) (ci := 0) (v := .ref (A 19)) (C := "CentrifugeUnit$Control") (T := xF0) (N := 14) hx hb htt xin0 hown hK hP 0 rfl rfl 6 (by decide) (htt _ tw_238) (fun _ h9 => h9) rfl d_Control_addDose_18 ?_
    refine lv_dup hx hb d_Control_addDose_21 rfl ?_
    refine va_get (D := (dC, dI)) (ci := 6) (v := .long (M.2.1 1)) (C := "CentrifugeUnit$Run") (T := xF6) (N := 8) hx hb htt xin6 hown hK hP 2 rfl rfl 0 (by decide) (htt _ tw_195) (fun _ h9 => h9) rfl d_Control_addDose_22 ?_
    refine lv_aload_n hx hb d_Control_addDose_25 rfl (lv_at hl 1 rfl) ?_
    refine va_get (D := (dC, dI)) (ci := 0) (v := .ref (A 1)) (C := "CentrifugeUnit$Control") (T := xF0) (N := 14) hx hb htt xin0 hown hK hP 0 rfl rfl 0 (by decide) (htt _ tw_231) (fun _ h9 => h9) rfl d_Control_addDose_26 ?_
    refine lv_aload_n hx hb d_Control_addDose_29 rfl (lv_at hl 1 rfl) ?_
    refine va_get (D := (dC, dI)) (ci := 0) (v := .ref (A 19)) (C := "CentrifugeUnit$Control") (T := xF0) (N := 14) hx hb htt xin0 hown hK hP 0 rfl rfl 6 (by decide) (htt _ tw_238) (fun _ h9 => h9) rfl d_Control_addDose_30 ?_
    refine va_get (D := (dC, dI)) (ci := 6) (v := .int (M.1 23)) (C := "CentrifugeUnit$Run") (T := xF6) (N := 8) hx hb htt xin6 hown hK hP 2 rfl rfl 2 (by decide) (htt _ tw_200) (fun _ h9 => h9) rfl d_Control_addDose_33 ?_
    have hPc := hP.sub (ws' := [(A 1, xc1 Z A M), (A 3, xc3 Z A M)]) [3, 4] rfl
    have hDc := hD.sub (ws' := [(A 1, xc1 Z A M), (A 3, xc3 Z A M)]) [3, 4] (by decide) rfl
    refine xk_p (va_runV (As := [.int (M.1 23)]) (rest := [.long (M.2.1 1), .ref (A 19)]) ⟨hx, hb, hml, hown, hts⟩ (c_Rotors_radiusOf l dC dI Z A _ M (M.1 23)) (cwV 1 hts (xw_V _ tw_660 tw_319 tw_320 tw_2 tw_321) rfl rfl rfl (by decide +kernel) ⟨Nat.le_of_ble_eq_true rfl, Nat.le_of_ble_eq_true rfl⟩) ⟨xB_blind, va_recv (q0 := 3) (ci := 5) hK hP rfl rfl, fun U hU hW => ⟨rfl, xB_at hPc hK hDc hq U hU hW⟩⟩ rfl rfl hl.1 rfl (lv_room (Nat.le_of_ble_eq_true rfl)) d_Control_addDose_36 ⟨Nat.le_of_ble_eq_true rfl, Nat.le_of_ble_eq_true rfl⟩) ?_
    refine lv_topi (fun z2 hz2 => ?_)
    refine lv_i2l (v := (z2).toInt64) hx hb d_Control_addDose_39 rfl ?_
    refine lv_lload_n hx hb d_Control_addDose_40 rfl (lv_at hl 0 rfl) ?_
    refine lv_lmul hx hb d_Control_addDose_41 ?_
    refine lv_lload_n hx hb d_Control_addDose_42 rfl (lv_at hl 0 rfl) ?_
    refine lv_lmul hx hb d_Control_addDose_43 ?_
    refine lv_ladd hx hb d_Control_addDose_44 ?_
    refine va_put (D := (dC, dI)) (ci := 6) (v := .long ((M.2.1 1) + (((z2).toInt64 * ((M.1 7)).toInt64) * ((M.1 7)).toInt64))) (ty := .long) (C := "CentrifugeUnit$Run") (T := xF6) (N := 8) hx hb htt xin6 xT6 xTo6 xNm6 hown hK hP hD hS 2 rfl rfl 0 (by decide) (htt _ tw_195) (fun _ h9 => h9) rfl (by decide +kernel) rfl rfl (Nat.le_of_ble_eq_true rfl) d_Control_addDose_45 (fun H locs hP hD hS => ?_)
    have hP : va_P (dC, dI) xcl [(A 17, .inr (0, [.ref (A 1), .ref (A 6), .ref (A 11), .ref (A 12), .ref (A 13), .ref (A 18), .ref (A 19), .int (M.1 12), .int (M.1 13), .int (M.1 14), .int (M.1 15), .int (M.1 16), .int (M.1 17), .int (M.1 18)])), (A 11, .inr (7, [.int (M.1 2), .int (M.1 3), .int (M.1 4), .int (M.1 5), .int (M.1 6), .int (M.1 7)])), (A 19, .inr (6, [.long ((M.2.1 1) + (((z2).toInt64 * ((M.1 7)).toInt64) * ((M.1 7)).toInt64)), .long (M.2.1 2), .int (M.1 23), .int (M.1 24), .int (M.1 25), .int (M.1 26), .int (M.1 27), .int (M.1 28)])), (A 1, .inr (5, [.ref (A 2), .ref (A 3), .ref (A 4), .ref (A 5), .int (M.1 0)])), (A 3, .inl (Z 0, 4, .inl (M.2.2.1 3)))] H := hP
    have hD : va_D AA [(A 17, .inr (0, [.ref (A 1), .ref (A 6), .ref (A 11), .ref (A 12), .ref (A 13), .ref (A 18), .ref (A 19), .int (M.1 12), .int (M.1 13), .int (M.1 14), .int (M.1 15), .int (M.1 16), .int (M.1 17), .int (M.1 18)])), (A 11, .inr (7, [.int (M.1 2), .int (M.1 3), .int (M.1 4), .int (M.1 5), .int (M.1 6), .int (M.1 7)])), (A 19, .inr (6, [.long ((M.2.1 1) + (((z2).toInt64 * ((M.1 7)).toInt64) * ((M.1 7)).toInt64)), .long (M.2.1 2), .int (M.1 23), .int (M.1 24), .int (M.1 25), .int (M.1 26), .int (M.1 27), .int (M.1 28)])), (A 1, .inr (5, [.ref (A 2), .ref (A 3), .ref (A 4), .ref (A 5), .int (M.1 0)])), (A 3, .inl (Z 0, 4, .inl (M.2.2.1 3)))] := hD
    have hP9 := hP.sub (ws' := [(A 17, xc17 Z A (ap_Control_addDose M ((M.2.1 1) + (((z2).toInt64 * ((M.1 7)).toInt64) * ((M.1 7)).toInt64)))), (A 11, xc11 Z A (ap_Control_addDose M ((M.2.1 1) + (((z2).toInt64 * ((M.1 7)).toInt64) * ((M.1 7)).toInt64)))), (A 19, xc19 Z A (ap_Control_addDose M ((M.2.1 1) + (((z2).toInt64 * ((M.1 7)).toInt64) * ((M.1 7)).toInt64)))), (A 1, xc1 Z A (ap_Control_addDose M ((M.2.1 1) + (((z2).toInt64 * ((M.1 7)).toInt64) * ((M.1 7)).toInt64)))), (A 3, xc3 Z A (ap_Control_addDose M ((M.2.1 1) + (((z2).toInt64 * ((M.1 7)).toInt64) * ((M.1 7)).toInt64))))]) [0, 1, 2, 3, 4] rfl
    have hD9 := hD.sub (ws' := [(A 17, xc17 Z A (ap_Control_addDose M ((M.2.1 1) + (((z2).toInt64 * ((M.1 7)).toInt64) * ((M.1 7)).toInt64)))), (A 11, xc11 Z A (ap_Control_addDose M ((M.2.1 1) + (((z2).toInt64 * ((M.1 7)).toInt64) * ((M.1 7)).toInt64)))), (A 19, xc19 Z A (ap_Control_addDose M ((M.2.1 1) + (((z2).toInt64 * ((M.1 7)).toInt64) * ((M.1 7)).toInt64)))), (A 1, xc1 Z A (ap_Control_addDose M ((M.2.1 1) + (((z2).toInt64 * ((M.1 7)).toInt64) * ((M.1 7)).toInt64)))), (A 3, xc3 Z A (ap_Control_addDose M ((M.2.1 1) + (((z2).toInt64 * ((M.1 7)).toInt64) * ((M.1 7)).toInt64))))]) [0, 1, 2, 3, 4] (by decide) rfl
    exact W.vret hx hb hr (fun t ht hW => ⟨⟨((M.2.1 1) + (((z2).toInt64 * ((M.1 7)).toInt64) * ((M.1 7)).toInt64)), rfl, (by rw [F_Control_addDose, if_pos h1, ← hz2, F_Control_addDose_k1]), xE_at hP9 hK hD9 ht hW⟩, hS.F ht⟩) hS.2.2 d_Control_addDose_48
abbrev bc_Control_keepToGoal : ByteArray := prog_2_method_17_code
def y_Control_keepToGoal : MethodName := ⟨"CentrifugeUnit$Control", "keepToGoal", "()V"⟩
theorem d_Control_keepToGoal_0 : decode bc_Control_keepToGoal 0 = .ok (.aload_n 0, 1) := by decide +kernel
theorem d_Control_keepToGoal_1 : decode bc_Control_keepToGoal 1 = .ok (.getfield 21, 3) := by decide +kernel
theorem d_Control_keepToGoal_4 : decode bc_Control_keepToGoal 4 = .ok (.getfield 208, 3) := by decide +kernel
theorem d_Control_keepToGoal_7 : decode bc_Control_keepToGoal 7 = .ok (.aload_n 0, 1) := by decide +kernel
theorem d_Control_keepToGoal_8 : decode bc_Control_keepToGoal 8 = .ok (.getfield 47, 3) := by decide +kernel
theorem d_Control_keepToGoal_11 : decode bc_Control_keepToGoal 11 = .ok (.getfield 105, 3) := by decide +kernel
theorem d_Control_keepToGoal_14 : decode bc_Control_keepToGoal 14 = .ok (.isub, 1) := by decide +kernel
theorem d_Control_keepToGoal_15 : decode bc_Control_keepToGoal 15 = .ok (.istore_n 1, 1) := by decide +kernel
theorem d_Control_keepToGoal_16 : decode bc_Control_keepToGoal 16 = .ok (.iload_n 1, 1) := by decide +kernel
theorem d_Control_keepToGoal_17 : decode bc_Control_keepToGoal 17 = .ok (.sipush (-200), 3) := by decide +kernel
theorem d_Control_keepToGoal_20 : decode bc_Control_keepToGoal 20 = .ok (.if_icmp .ge 11, 3) := by decide +kernel
theorem d_Control_keepToGoal_23 : decode bc_Control_keepToGoal 23 = .ok (.aload_n 0, 1) := by decide +kernel
theorem d_Control_keepToGoal_24 : decode bc_Control_keepToGoal 24 = .ok (.iconst 3, 1) := by decide +kernel
theorem d_Control_keepToGoal_25 : decode bc_Control_keepToGoal 25 = .ok (.putfield 68, 3) := by decide +kernel
theorem d_Control_keepToGoal_28 : decode bc_Control_keepToGoal 28 = .ok (.goto 32, 3) := by decide +kernel
theorem d_Control_keepToGoal_31 : decode bc_Control_keepToGoal 31 = .ok (.aload_n 0, 1) := by decide +kernel
theorem d_Control_keepToGoal_32 : decode bc_Control_keepToGoal 32 = .ok (.getfield 21, 3) := by decide +kernel
theorem d_Control_keepToGoal_35 : decode bc_Control_keepToGoal 35 = .ok (.getfield 208, 3) := by decide +kernel
theorem d_Control_keepToGoal_38 : decode bc_Control_keepToGoal 38 = .ok (.ifCond .eq 22, 3) := by decide +kernel
theorem d_Control_keepToGoal_41 : decode bc_Control_keepToGoal 41 = .ok (.aload_n 0, 1) := by decide +kernel
theorem d_Control_keepToGoal_42 : decode bc_Control_keepToGoal 42 = .ok (.iconst 0, 1) := by decide +kernel
theorem d_Control_keepToGoal_43 : decode bc_Control_keepToGoal 43 = .ok (.bipush 100, 2) := by decide +kernel
theorem d_Control_keepToGoal_45 : decode bc_Control_keepToGoal 45 = .ok (.bipush 40, 2) := by decide +kernel
theorem d_Control_keepToGoal_47 : decode bc_Control_keepToGoal 47 = .ok (.iload_n 1, 1) := by decide +kernel
theorem d_Control_keepToGoal_48 : decode bc_Control_keepToGoal 48 = .ok (.iconst 4, 1) := by decide +kernel
theorem d_Control_keepToGoal_49 : decode bc_Control_keepToGoal 49 = .ok (.idiv, 1) := by decide +kernel
theorem d_Control_keepToGoal_50 : decode bc_Control_keepToGoal 50 = .ok (.iadd, 1) := by decide +kernel
theorem d_Control_keepToGoal_51 : decode bc_Control_keepToGoal 51 = .ok (.invokestatic 218, 3) := by decide +kernel
theorem d_Control_keepToGoal_54 : decode bc_Control_keepToGoal 54 = .ok (.invokestatic 124, 3) := by decide +kernel
theorem d_Control_keepToGoal_57 : decode bc_Control_keepToGoal 57 = .ok (.putfield 65, 3) := by decide +kernel
theorem d_Control_keepToGoal_60 : decode bc_Control_keepToGoal 60 = .ok (.return_, 1) := by decide +kernel
abbrev ap_Control_keepToGoal (M : XM) (u : (Int32 × Int32)) : XM := ((va_up (va_up M.1 16 (u.1)) 17 (u.2)), M.2)
def F_Control_keepToGoal_k2 (M : XM) (z3 : Int32) (z4 : Int32) : (Int32 × Int32) := (z4, (M.1 17))
def F_Control_keepToGoal_k1 (M : XM) (z3 : Int32) : (Int32 × Int32) := (F_Control_keepToGoal_k2 M z3 (if 0 < z3 then z3 else 0))
def F_Control_keepToGoal (M : XM) : (Int32 × Int32) := (if (-200) ≤ ((M.1 28) - (M.1 6)) then (if (M.1 28) = 0 then ((M.1 16), (M.1 17)) else (F_Control_keepToGoal_k1 M (if (40 + (((M.1 28) - (M.1 6)) / 4)) < 100 then (40 + (((M.1 28) - (M.1 6)) / 4)) else 100))) else ((M.1 16), 3))
set_option maxHeartbeats 4000000 in
set_option maxRecDepth 100000 in
theorem c_Control_keepToGoal (l : Launch) (dC : Nat → ClassId) (dI : Nat → Nat → Nat) (Z : Nat → ClassId) (A : Nat → Nat) (sz : Nat) (M : XM) : Met l y_Control_keepToGoal (.code y_Control_keepToGoal bc_Control_keepToGoal 2 none :: xw) ({ frames := 1, cells := 0, slots := 0, locals := 23 }) (va_Pc [.ref (A 17)] (xB (dC, dI) xcl (xty Z) sz [(A 17, xc17 Z A M), (A 19, xc19 Z A M), (A 11, xc11 Z A M)])) (va_Qv (fun u : (Int32 × Int32) => u = F_Control_keepToGoal M) (fun u => xE (dC, dI) xcl (xty Z) (va_A [(A 17, xc17 Z A M), (A 19, xc19 Z A M), (A 11, xc11 Z A M)] sz) [(A 17, xc17 Z A (ap_Control_keepToGoal M u)), (A 19, xc19 Z A (ap_Control_keepToGoal M u)), (A 11, xc11 Z A (ap_Control_keepToGoal M u))]) (va_A [(A 17, xc17 Z A M), (A 19, xc19 Z A M), (A 11, xc11 Z A M)] sz)) 0 0 (va_A [(A 17, xc17 Z A M), (A 19, xc19 Z A M), (A 11, xc11 Z A M)] sz) := by
  refine Met.ofW (cc := bc_Control_keepToGoal) (maxL := 2) (ret := none) (by decide) rfl ?_
  intro p e s m args below meth c s₁ B hml hv
  obtain ⟨rfl, hsz, hP, hK, hD0, hq⟩ := hv
  have hx := B.exec
  have hb := B.bytes
  have hr := B.returns
  have hts := atoms_spec (ws := (.code y_Control_keepToGoal bc_Control_keepToGoal 2 none :: xw)) B.pre
  have htt : ∀ w ∈ xw, w.before _ s = true := fun w h => hts w (List.mem_cons_of_mem _ h)
  have hown : s.vm.findClass "CentrifugeUnit$Control" = some m.cls := findClass_of_methodNamed B.named
  have hlocks := B.notSynchronized
  subst hsz
  have hD := hD0.self (sz := s.heap.size)
  generalize hAe : va_A [(A 17, xc17 Z A M), (A 19, xc19 Z A M), (A 11, xc11 Z A M)] s.heap.size = AA at hD ⊢
  have hA : ∀ q : Nat, s.heap.size ≤ q → AA q := fun q h => by rw [← hAe]; exact Or.inr h
  have hS : va_S AA s.heap s.heap [] := va_S.rf
  have hP : va_P (dC, dI) xcl [(A 17, .inr (0, [.ref (A 1), .ref (A 6), .ref (A 11), .ref (A 12), .ref (A 13), .ref (A 18), .ref (A 19), .int (M.1 12), .int (M.1 13), .int (M.1 14), .int (M.1 15), .int (M.1 16), .int (M.1 17), .int (M.1 18)])), (A 19, .inr (6, [.long (M.2.1 1), .long (M.2.1 2), .int (M.1 23), .int (M.1 24), .int (M.1 25), .int (M.1 26), .int (M.1 27), .int (M.1 28)])), (A 11, .inr (7, [.int (M.1 2), .int (M.1 3), .int (M.1 4), .int (M.1 5), .int (M.1 6), .int (M.1 7)]))] s.heap := hP
  have hD : va_D AA [(A 17, .inr (0, [.ref (A 1), .ref (A 6), .ref (A 11), .ref (A 12), .ref (A 13), .ref (A 18), .ref (A 19), .int (M.1 12), .int (M.1 13), .int (M.1 14), .int (M.1 15), .int (M.1 16), .int (M.1 17), .int (M.1 18)])), (A 19, .inr (6, [.long (M.2.1 1), .long (M.2.1 2), .int (M.1 23), .int (M.1 24), .int (M.1 25), .int (M.1 26), .int (M.1 27), .int (M.1 28)])), (A 11, .inr (7, [.int (M.1 2), .int (M.1 3), .int (M.1 4), .int (M.1 5), .int (M.1 6), .int (M.1 7)]))] := hD
  have hl := lv_entry ([.ref (A 17)]) (n := 2) (Nat.le_of_ble_eq_true rfl)
  rw [lg_entry_eq]
  generalize (lg_sl ([.ref (A 17)]) ++ List.replicate (2 - (lg_sl ([.ref (A 17)])).length) Slot.unset).toArray = ls at hl ⊢
  have hl : lv_has ls 2 [(0, .ref (A 17))] := hl
  refine lv_aload_n hx hb d_Control_keepToGoal_0 rfl (lv_at hl 0 rfl) ?_
  refine va_get (D := (dC, dI)) (ci := 0) (v := .ref (A 19)) (C := "CentrifugeUnit$Control") (T := xF0) (N := 14) hx hb htt xin0 hown hK hP 0 rfl rfl 6 (by decide) (htt _ tw_238) (fun _ h9 => h9) rfl d_Control_keepToGoal_1 ?_
  refine va_get (D := (dC, dI)) (ci := 6) (v := .int (M.1 28)) (C := "CentrifugeUnit$Run") (T := xF6) (N := 8) hx hb htt xin6 hown hK hP 1 rfl rfl 7 (by decide) (htt _ tw_213) (fun _ h9 => h9) rfl d_Control_keepToGoal_4 ?_
  refine lv_aload_n hx hb d_Control_keepToGoal_7 rfl (lv_at hl 0 rfl) ?_
  refine va_get (D := (dC, dI)) (ci := 0) (v := .ref (A 11)) (C := "CentrifugeUnit$Control") (T := xF0) (N := 14) hx hb htt xin0 hown hK hP 0 rfl rfl 2 (by decide) (htt _ tw_233) (fun _ h9 => h9) rfl d_Control_keepToGoal_8 ?_
  refine va_get (D := (dC, dI)) (ci := 7) (v := .int (M.1 6)) (C := "CentrifugeUnit$Sensors") (T := xF7) (N := 6) hx hb htt xin7 hown hK hP 2 rfl rfl 4 (by decide) (htt _ tw_105) (fun _ h9 => h9) rfl d_Control_keepToGoal_11 ?_
  refine lv_isub hx hb d_Control_keepToGoal_14 ?_
  refine lv_istore_n (lv' := [(1, .int ((M.1 28) - (M.1 6))), (0, .ref (A 17))]) hx hb d_Control_keepToGoal_15 rfl hl (by decide) rfl (fun ls hl => ?_)
  refine lv_iload_n hx hb d_Control_keepToGoal_16 rfl (lv_at hl 0 rfl) ?_
  refine lv_sipush (v := (-200)) hx hb d_Control_keepToGoal_17 (by decide) ?_
  refine lv_icmp_ge (tgt := 31) hx hb d_Control_keepToGoal_20 rfl (fun h1 => ?_) (fun h1 => ?_)
  · refine lv_aload_n hx hb d_Control_keepToGoal_31 rfl (lv_at hl 1 rfl) ?_
    refine va_get (D := (dC, dI)) (ci := 0) (v := .ref (A 19)) (C := "CentrifugeUnit$Control") (T := xF0) (N := 14) hx hb htt xin0 hown hK hP 0 rfl rfl 6 (by decide) (htt _ tw_238) (fun _ h9 => h9) rfl d_Control_keepToGoal_32 ?_
    refine va_get (D := (dC, dI)) (ci := 6) (v := .int (M.1 28)) (C := "CentrifugeUnit$Run") (T := xF6) (N := 8) hx hb htt xin6 hown hK hP 1 rfl rfl 7 (by decide) (htt _ tw_213) (fun _ h9 => h9) rfl d_Control_keepToGoal_35 ?_
    refine lv_if_eq (tgt := 60) hx hb d_Control_keepToGoal_38 rfl (fun h2 => ?_) (fun h2 => ?_)
    · have hP9 := hP.sub (ws' := [(A 17, xc17 Z A (ap_Control_keepToGoal M ((M.1 16), (M.1 17)))), (A 19, xc19 Z A (ap_Control_keepToGoal M ((M.1 16), (M.1 17)))), (A 11, xc11 Z A (ap_Control_keepToGoal M ((M.1 16), (M.1 17))))]) [0, 1, 2] rfl
      have hD9 := hD.sub (ws' := [(A 17, xc17 Z A (ap_Control_keepToGoal M ((M.1 16), (M.1 17)))), (A 19, xc19 Z A (ap_Control_keepToGoal M ((M.1 16), (M.1 17)))), (A 11, xc11 Z A (ap_Control_keepToGoal M ((M.1 16), (M.1 17))))]) [0, 1, 2] (by decide) rfl
      exact W.vret hx hb hr (fun t ht hW => ⟨⟨((M.1 16), (M.1 17)), rfl, (by rw [F_Control_keepToGoal, if_pos h1, if_pos h2]), xE_at hP9 hK hD9 ht hW⟩, hS.F ht⟩) hS.2.2 d_Control_keepToGoal_60
    · refine lv_aload_n hx hb d_Control_keepToGoal_41 rfl (lv_at hl 1 rfl) ?_
      refine lv_iconst (v := 0) hx hb d_Control_keepToGoal_42 (by decide) ?_
      refine lv_bipush (v := 100) hx hb d_Control_keepToGoal_43 (by decide) ?_
      refine lv_bipush (v := 40) hx hb d_Control_keepToGoal_45 (by decide) ?_
      refine lv_iload_n hx hb d_Control_keepToGoal_47 rfl (lv_at hl 0 rfl) ?_
      refine lv_iconst (v := 4) hx hb d_Control_keepToGoal_48 (by decide) ?_
      refine lv_idiv hx hb d_Control_keepToGoal_49 (by decide) ?_
      refine lv_iadd hx hb d_Control_keepToGoal_50 ?_
      refine va_mmin hx hb (hml.trans hl.1.symm) hown (htt _ tw_687) (htt _ tw_614) (htt _ tw_18) (htt _ tw_615) (Nat.le_of_ble_eq_true rfl) (Nat.le_of_ble_eq_true rfl) (Nat.le_of_ble_eq_true rfl) (Nat.le_of_ble_eq_true rfl) d_Control_keepToGoal_51 ?_
      refine lv_topi (fun z3 hz3 => ?_)
      refine va_mmax hx hb (hml.trans hl.1.symm) hown (htt _ tw_634) (htt _ tw_611) (htt _ tw_18) (htt _ tw_612) (Nat.le_of_ble_eq_true rfl) (Nat.le_of_ble_eq_true rfl) (Nat.le_of_ble_eq_true rfl) (Nat.le_of_ble_eq_true rfl) d_Control_keepToGoal_54 ?_
      refine lv_topi (fun z4 hz4 => ?_)
      refine va_put (D := (dC, dI)) (ci := 0) (v := .int z4) (ty := .int) (C := "CentrifugeUnit$Control") (T := xF0) (N := 14) hx hb htt xin0 xT0 xTo0 xNm0 hown hK hP hD hS 0 rfl rfl 11 (by decide) (htt _ tw_248) (fun _ h9 => h9) rfl (by decide +kernel) rfl rfl (Nat.le_of_ble_eq_true rfl) d_Control_keepToGoal_57 (fun H locs hP hD hS => ?_)
      have hP : va_P (dC, dI) xcl [(A 17, .inr (0, [.ref (A 1), .ref (A 6), .ref (A 11), .ref (A 12), .ref (A 13), .ref (A 18), .ref (A 19), .int (M.1 12), .int (M.1 13), .int (M.1 14), .int (M.1 15), .int z4, .int (M.1 17), .int (M.1 18)])), (A 19, .inr (6, [.long (M.2.1 1), .long (M.2.1 2), .int (M.1 23), .int (M.1 24), .int (M.1 25), .int (M.1 26), .int (M.1 27), .int (M.1 28)])), (A 11, .inr (7, [.int (M.1 2), .int (M.1 3), .int (M.1 4), .int (M.1 5), .int (M.1 6), .int (M.1 7)]))] H := hP
      have hD : va_D AA [(A 17, .inr (0, [.ref (A 1), .ref (A 6), .ref (A 11), .ref (A 12), .ref (A 13), .ref (A 18), .ref (A 19), .int (M.1 12), .int (M.1 13), .int (M.1 14), .int (M.1 15), .int z4, .int (M.1 17), .int (M.1 18)])), (A 19, .inr (6, [.long (M.2.1 1), .long (M.2.1 2), .int (M.1 23), .int (M.1 24), .int (M.1 25), .int (M.1 26), .int (M.1 27), .int (M.1 28)])), (A 11, .inr (7, [.int (M.1 2), .int (M.1 3), .int (M.1 4), .int (M.1 5), .int (M.1 6), .int (M.1 7)]))] := hD
      have hP9 := hP.sub (ws' := [(A 17, xc17 Z A (ap_Control_keepToGoal M (z4, (M.1 17)))), (A 19, xc19 Z A (ap_Control_keepToGoal M (z4, (M.1 17)))), (A 11, xc11 Z A (ap_Control_keepToGoal M (z4, (M.1 17))))]) [0, 1, 2] rfl
      have hD9 := hD.sub (ws' := [(A 17, xc17 Z A (ap_Control_keepToGoal M (z4, (M.1 17)))), (A 19, xc19 Z A (ap_Control_keepToGoal M (z4, (M.1 17)))), (A 11, xc11 Z A (ap_Control_keepToGoal M (z4, (M.1 17))))]) [0, 1, 2] (by decide) rfl
      exact W.vret hx hb hr (fun t ht hW => ⟨⟨(z4, (M.1 17)), rfl, (by rw [F_Control_keepToGoal, if_pos h1, if_neg h2, ← hz3, F_Control_keepToGoal_k1, ← hz4, F_Control_keepToGoal_k2]), xE_at hP9 hK hD9 ht hW⟩, hS.F ht⟩) hS.2.2 d_Control_keepToGoal_60
  · refine lv_aload_n hx hb d_Control_keepToGoal_23 rfl (lv_at hl 1 rfl) ?_
    refine lv_iconst (v := 3) hx hb d_Control_keepToGoal_24 (by decide) ?_
    refine va_put (D := (dC, dI)) (ci := 0) (v := .int 3) (ty := .int) (C := "CentrifugeUnit$Control") (T := xF0) (N := 14) hx hb htt xin0 xT0 xTo0 xNm0 hown hK hP hD hS 0 rfl rfl 12 (by decide) (htt _ tw_250) (fun _ h9 => h9) rfl (by decide +kernel) rfl rfl (Nat.le_of_ble_eq_true rfl) d_Control_keepToGoal_25 (fun H locs hP hD hS => ?_)
    have hP : va_P (dC, dI) xcl [(A 17, .inr (0, [.ref (A 1), .ref (A 6), .ref (A 11), .ref (A 12), .ref (A 13), .ref (A 18), .ref (A 19), .int (M.1 12), .int (M.1 13), .int (M.1 14), .int (M.1 15), .int (M.1 16), .int 3, .int (M.1 18)])), (A 19, .inr (6, [.long (M.2.1 1), .long (M.2.1 2), .int (M.1 23), .int (M.1 24), .int (M.1 25), .int (M.1 26), .int (M.1 27), .int (M.1 28)])), (A 11, .inr (7, [.int (M.1 2), .int (M.1 3), .int (M.1 4), .int (M.1 5), .int (M.1 6), .int (M.1 7)]))] H := hP
    have hD : va_D AA [(A 17, .inr (0, [.ref (A 1), .ref (A 6), .ref (A 11), .ref (A 12), .ref (A 13), .ref (A 18), .ref (A 19), .int (M.1 12), .int (M.1 13), .int (M.1 14), .int (M.1 15), .int (M.1 16), .int 3, .int (M.1 18)])), (A 19, .inr (6, [.long (M.2.1 1), .long (M.2.1 2), .int (M.1 23), .int (M.1 24), .int (M.1 25), .int (M.1 26), .int (M.1 27), .int (M.1 28)])), (A 11, .inr (7, [.int (M.1 2), .int (M.1 3), .int (M.1 4), .int (M.1 5), .int (M.1 6), .int (M.1 7)]))] := hD
    refine lv_goto (tgt := 60) hx hb d_Control_keepToGoal_28 rfl ?_
    have hP9 := hP.sub (ws' := [(A 17, xc17 Z A (ap_Control_keepToGoal M ((M.1 16), 3))), (A 19, xc19 Z A (ap_Control_keepToGoal M ((M.1 16), 3))), (A 11, xc11 Z A (ap_Control_keepToGoal M ((M.1 16), 3)))]) [0, 1, 2] rfl
    have hD9 := hD.sub (ws' := [(A 17, xc17 Z A (ap_Control_keepToGoal M ((M.1 16), 3))), (A 19, xc19 Z A (ap_Control_keepToGoal M ((M.1 16), 3))), (A 11, xc11 Z A (ap_Control_keepToGoal M ((M.1 16), 3)))]) [0, 1, 2] (by decide) rfl
    exact W.vret hx hb hr (fun t ht hW => ⟨⟨((M.1 16), 3), rfl, (by rw [F_Control_keepToGoal, if_neg h1]), xE_at hP9 hK hD9 ht hW⟩, hS.F ht⟩) hS.2.2 d_Control_keepToGoal_60
abbrev bc_Control_slowDown : ByteArray := prog_2_method_16_code
def y_Control_slowDown : MethodName := ⟨"CentrifugeUnit$Control", "slowDown", "(II)Z"⟩
theorem d_Control_slowDown_0 : decode bc_Control_slowDown 0 = .ok (.aload_n 0, 1) := by decide +kernel
theorem d_Control_slowDown_1 : decode bc_Control_slowDown 1 = .ok (.iload_n 2, 1) := by decide +kernel
theorem d_Control_slowDown_2 : decode bc_Control_slowDown 2 = .ok (.putfield 68, 3) := by decide +kernel
theorem d_Control_slowDown_5 : decode bc_Control_slowDown 5 = .ok (.aload_n 0, 1) := by decide +kernel
theorem d_Control_slowDown_6 : decode bc_Control_slowDown 6 = .ok (.getfield 47, 3) := by decide +kernel
theorem d_Control_slowDown_9 : decode bc_Control_slowDown 9 = .ok (.getfield 105, 3) := by decide +kernel
theorem d_Control_slowDown_12 : decode bc_Control_slowDown 12 = .ok (.iload_n 1, 1) := by decide +kernel
theorem d_Control_slowDown_13 : decode bc_Control_slowDown 13 = .ok (.if_icmp .le 5, 3) := by decide +kernel
theorem d_Control_slowDown_16 : decode bc_Control_slowDown 16 = .ok (.iconst 0, 1) := by decide +kernel
theorem d_Control_slowDown_17 : decode bc_Control_slowDown 17 = .ok (.ireturn, 1) := by decide +kernel
theorem d_Control_slowDown_18 : decode bc_Control_slowDown 18 = .ok (.aload_n 0, 1) := by decide +kernel
theorem d_Control_slowDown_19 : decode bc_Control_slowDown 19 = .ok (.getfield 21, 3) := by decide +kernel
theorem d_Control_slowDown_22 : decode bc_Control_slowDown 22 = .ok (.iload_n 1, 1) := by decide +kernel
theorem d_Control_slowDown_23 : decode bc_Control_slowDown 23 = .ok (.putfield 208, 3) := by decide +kernel
theorem d_Control_slowDown_26 : decode bc_Control_slowDown 26 = .ok (.iconst 1, 1) := by decide +kernel
theorem d_Control_slowDown_27 : decode bc_Control_slowDown 27 = .ok (.ireturn, 1) := by decide +kernel
abbrev ap_Control_slowDown (M : XM) (u : (Int32 × Int32)) : XM := ((va_up (va_up M.1 17 (u.1)) 28 (u.2)), M.2)
def F_Control_slowDown (M : XM) (a1 : Int32) (a2 : Int32) : Int32 × (Int32 × Int32) := (if (M.1 6) ≤ a1 then (1, (a2, a1)) else (0, (a2, (M.1 28))))
theorem f01_Control_slowDown (M : XM) (a1 : Int32) (a2 : Int32) : (F_Control_slowDown M a1 a2).1 = 0 ∨ (F_Control_slowDown M a1 a2).1 = 1 := by
  simp only [F_Control_slowDown]; repeat' split
  all_goals first | exact Or.inl rfl | exact Or.inr rfl | simp
set_option maxHeartbeats 4000000 in
set_option maxRecDepth 100000 in
theorem c_Control_slowDown (l : Launch) (dC : Nat → ClassId) (dI : Nat → Nat → Nat) (Z : Nat → ClassId) (A : Nat → Nat) (sz : Nat) (M : XM) (a1 : Int32) (a2 : Int32) : Met l y_Control_slowDown (.code y_Control_slowDown bc_Control_slowDown 3 (some .boolean) :: xw) ({ frames := 0, cells := 0, slots := 0, locals := 0 }) (va_Pc [.ref (A 17), .int a1, .int a2] (xB (dC, dI) xcl (xty Z) sz [(A 17, xc17 Z A M), (A 19, xc19 Z A M), (A 11, xc11 Z A M)])) (va_Qi (fun (r : Int32) (u : (Int32 × Int32)) => (r, u) = F_Control_slowDown M a1 a2) (fun u => xE (dC, dI) xcl (xty Z) (va_A [(A 17, xc17 Z A M), (A 19, xc19 Z A M), (A 11, xc11 Z A M)] sz) [(A 17, xc17 Z A (ap_Control_slowDown M u)), (A 19, xc19 Z A (ap_Control_slowDown M u)), (A 11, xc11 Z A (ap_Control_slowDown M u))]) (va_A [(A 17, xc17 Z A M), (A 19, xc19 Z A M), (A 11, xc11 Z A M)] sz)) 0 0 (va_A [(A 17, xc17 Z A M), (A 19, xc19 Z A M), (A 11, xc11 Z A M)] sz) := by
  refine Met.ofW (cc := bc_Control_slowDown) (maxL := 3) (ret := (some .boolean)) (by decide) rfl ?_
  intro p e s m args below meth c s₁ B hml hv
  obtain ⟨rfl, hsz, hP, hK, hD0, hq⟩ := hv
  have hx := B.exec
  have hb := B.bytes
  have hr := B.returns
  have hts := atoms_spec (ws := (.code y_Control_slowDown bc_Control_slowDown 3 (some .boolean) :: xw)) B.pre
  have htt : ∀ w ∈ xw, w.before _ s = true := fun w h => hts w (List.mem_cons_of_mem _ h)
  have hown : s.vm.findClass "CentrifugeUnit$Control" = some m.cls := findClass_of_methodNamed B.named
  have hlocks := B.notSynchronized
  subst hsz
  have hD := hD0.self (sz := s.heap.size)
  generalize hAe : va_A [(A 17, xc17 Z A M), (A 19, xc19 Z A M), (A 11, xc11 Z A M)] s.heap.size = AA at hD ⊢
  have hA : ∀ q : Nat, s.heap.size ≤ q → AA q := fun q h => by rw [← hAe]; exact Or.inr h
  have hS : va_S AA s.heap s.heap [] := va_S.rf
  have hP : va_P (dC, dI) xcl [(A 17, .inr (0, [.ref (A 1), .ref (A 6), .ref (A 11), .ref (A 12), .ref (A 13), .ref (A 18), .ref (A 19), .int (M.1 12), .int (M.1 13), .int (M.1 14), .int (M.1 15), .int (M.1 16), .int (M.1 17), .int (M.1 18)])), (A 19, .inr (6, [.long (M.2.1 1), .long (M.2.1 2), .int (M.1 23), .int (M.1 24), .int (M.1 25), .int (M.1 26), .int (M.1 27), .int (M.1 28)])), (A 11, .inr (7, [.int (M.1 2), .int (M.1 3), .int (M.1 4), .int (M.1 5), .int (M.1 6), .int (M.1 7)]))] s.heap := hP
  have hD : va_D AA [(A 17, .inr (0, [.ref (A 1), .ref (A 6), .ref (A 11), .ref (A 12), .ref (A 13), .ref (A 18), .ref (A 19), .int (M.1 12), .int (M.1 13), .int (M.1 14), .int (M.1 15), .int (M.1 16), .int (M.1 17), .int (M.1 18)])), (A 19, .inr (6, [.long (M.2.1 1), .long (M.2.1 2), .int (M.1 23), .int (M.1 24), .int (M.1 25), .int (M.1 26), .int (M.1 27), .int (M.1 28)])), (A 11, .inr (7, [.int (M.1 2), .int (M.1 3), .int (M.1 4), .int (M.1 5), .int (M.1 6), .int (M.1 7)]))] := hD
  have hl := lv_entry ([.ref (A 17), .int a1, .int a2]) (n := 3) (Nat.le_of_ble_eq_true rfl)
  rw [lg_entry_eq]
  generalize (lg_sl ([.ref (A 17), .int a1, .int a2]) ++ List.replicate (3 - (lg_sl ([.ref (A 17), .int a1, .int a2])).length) Slot.unset).toArray = ls at hl ⊢
  have hl : lv_has ls 3 [(0, .ref (A 17)), (1, .int a1), (2, .int a2)] := hl
  refine lv_aload_n hx hb d_Control_slowDown_0 rfl (lv_at hl 0 rfl) ?_
  refine lv_iload_n hx hb d_Control_slowDown_1 rfl (lv_at hl 2 rfl) ?_
  refine va_put (D := (dC, dI)) (ci := 0) (v := .int a2) (ty := .int) (C := "CentrifugeUnit$Control") (T := xF0) (N := 14) hx hb htt xin0 xT0 xTo0 xNm0 hown hK hP hD hS 0 rfl rfl 12 (by decide) (htt _ tw_250) (fun _ h9 => h9) rfl (by decide +kernel) rfl rfl (Nat.le_of_ble_eq_true rfl) d_Control_slowDown_2 (fun H locs hP hD hS => ?_)
  have hP : va_P (dC, dI) xcl [(A 17, .inr (0, [.ref (A 1), .ref (A 6), .ref (A 11), .ref (A 12), .ref (A 13), .ref (A 18), .ref (A 19), .int (M.1 12), .int (M.1 13), .int (M.1 14), .int (M.1 15), .int (M.1 16), .int a2, .int (M.1 18)])), (A 19, .inr (6, [.long (M.2.1 1), .long (M.2.1 2), .int (M.1 23), .int (M.1 24), .int (M.1 25), .int (M.1 26), .int (M.1 27), .int (M.1 28)])), (A 11, .inr (7, [.int (M.1 2), .int (M.1 3), .int (M.1 4), .int (M.1 5), .int (M.1 6), .int (M.1 7)]))] H := hP
  have hD : va_D AA [(A 17, .inr (0, [.ref (A 1), .ref (A 6), .ref (A 11), .ref (A 12), .ref (A 13), .ref (A 18), .ref (A 19), .int (M.1 12), .int (M.1 13), .int (M.1 14), .int (M.1 15), .int (M.1 16), .int a2, .int (M.1 18)])), (A 19, .inr (6, [.long (M.2.1 1), .long (M.2.1 2), .int (M.1 23), .int (M.1 24), .int (M.1 25), .int (M.1 26), .int (M.1 27), .int (M.1 28)])), (A 11, .inr (7, [.int (M.1 2), .int (M.1 3), .int (M.1 4), .int (M.1 5), .int (M.1 6), .int (M.1 7)]))] := hD
  refine lv_aload_n hx hb d_Control_slowDown_5 rfl (lv_at hl 0 rfl) ?_
  refine va_get (D := (dC, dI)) (ci := 0) (v := .ref (A 11)) (C := "CentrifugeUnit$Control") (T := xF0) (N := 14) hx hb htt xin0 hown hK hP 0 rfl rfl 2 (by decide) (htt _ tw_233) (fun _ h9 => h9) rfl d_Control_slowDown_6 ?_
  refine va_get (D := (dC, dI)) (ci := 7) (v := .int (M.1 6)) (C := "CentrifugeUnit$Sensors") (T := xF7) (N := 6) hx hb htt xin7 hown hK hP 2 rfl rfl 4 (by decide) (htt _ tw_105) (fun _ h9 => h9) rfl d_Control_slowDown_9 ?_
  refine lv_iload_n hx hb d_Control_slowDown_12 rfl (lv_at hl 1 rfl) ?_
  refine lv_icmp_le (tgt := 18) hx hb d_Control_slowDown_13 rfl (fun h1 => ?_) (fun h1 => ?_)
  · refine lv_aload_n hx hb d_Control_slowDown_18 rfl (lv_at hl 0 rfl) ?_
    refine va_get (D := (dC, dI)) (ci := 0) (v := .ref (A 19)) (C := "CentrifugeUnit$Control") (T := xF0) (N := 14) hx hb htt xin0 hown hK hP 0 rfl rfl 6 (by decide) (htt _ tw_238) (fun _ h9 => h9) rfl d_Control_slowDown_19 ?_
    refine lv_iload_n hx hb d_Control_slowDown_22 rfl (lv_at hl 1 rfl) ?_
    refine va_put (D := (dC, dI)) (ci := 6) (v := .int a1) (ty := .int) (C := "CentrifugeUnit$Run") (T := xF6) (N := 8) hx hb htt xin6 xT6 xTo6 xNm6 hown hK hP hD hS 1 rfl rfl 7 (by decide) (htt _ tw_213) (fun _ h9 => h9) rfl (by decide +kernel) rfl rfl (Nat.le_of_ble_eq_true rfl) d_Control_slowDown_23 (fun H locs hP hD hS => ?_)
    have hP : va_P (dC, dI) xcl [(A 17, .inr (0, [.ref (A 1), .ref (A 6), .ref (A 11), .ref (A 12), .ref (A 13), .ref (A 18), .ref (A 19), .int (M.1 12), .int (M.1 13), .int (M.1 14), .int (M.1 15), .int (M.1 16), .int a2, .int (M.1 18)])), (A 19, .inr (6, [.long (M.2.1 1), .long (M.2.1 2), .int (M.1 23), .int (M.1 24), .int (M.1 25), .int (M.1 26), .int (M.1 27), .int a1])), (A 11, .inr (7, [.int (M.1 2), .int (M.1 3), .int (M.1 4), .int (M.1 5), .int (M.1 6), .int (M.1 7)]))] H := hP
    have hD : va_D AA [(A 17, .inr (0, [.ref (A 1), .ref (A 6), .ref (A 11), .ref (A 12), .ref (A 13), .ref (A 18), .ref (A 19), .int (M.1 12), .int (M.1 13), .int (M.1 14), .int (M.1 15), .int (M.1 16), .int a2, .int (M.1 18)])), (A 19, .inr (6, [.long (M.2.1 1), .long (M.2.1 2), .int (M.1 23), .int (M.1 24), .int (M.1 25), .int (M.1 26), .int (M.1 27), .int a1])), (A 11, .inr (7, [.int (M.1 2), .int (M.1 3), .int (M.1 4), .int (M.1 5), .int (M.1 6), .int (M.1 7)]))] := hD
    refine lv_iconst (v := 1) hx hb d_Control_slowDown_26 (by decide) ?_
    have hP9 := hP.sub (ws' := [(A 17, xc17 Z A (ap_Control_slowDown M (a2, a1))), (A 19, xc19 Z A (ap_Control_slowDown M (a2, a1))), (A 11, xc11 Z A (ap_Control_slowDown M (a2, a1)))]) [0, 1, 2] rfl
    have hD9 := hD.sub (ws' := [(A 17, xc17 Z A (ap_Control_slowDown M (a2, a1))), (A 19, xc19 Z A (ap_Control_slowDown M (a2, a1))), (A 11, xc11 Z A (ap_Control_slowDown M (a2, a1)))]) [0, 1, 2] (by decide) rfl
    exact W.zret (ty := .boolean) hx hb hr rfl (fun t ht hW => ⟨⟨1, (a2, a1), rfl, (by rw [F_Control_slowDown, if_pos h1]), xE_at hP9 hK hD9 ht hW⟩, hS.F ht⟩) hS.2.2 d_Control_slowDown_27
  · refine lv_iconst (v := 0) hx hb d_Control_slowDown_16 (by decide) ?_
    have hP9 := hP.sub (ws' := [(A 17, xc17 Z A (ap_Control_slowDown M (a2, (M.1 28)))), (A 19, xc19 Z A (ap_Control_slowDown M (a2, (M.1 28)))), (A 11, xc11 Z A (ap_Control_slowDown M (a2, (M.1 28))))]) [0, 1, 2] rfl
    have hD9 := hD.sub (ws' := [(A 17, xc17 Z A (ap_Control_slowDown M (a2, (M.1 28)))), (A 19, xc19 Z A (ap_Control_slowDown M (a2, (M.1 28)))), (A 11, xc11 Z A (ap_Control_slowDown M (a2, (M.1 28))))]) [0, 1, 2] (by decide) rfl
    exact W.zret (ty := .boolean) hx hb hr rfl (fun t ht hW => ⟨⟨0, (a2, (M.1 28)), rfl, (by rw [F_Control_slowDown, if_neg h1]), xE_at hP9 hK hD9 ht hW⟩, hS.F ht⟩) hS.2.2 d_Control_slowDown_17
abbrev bc_Control_ramp : ByteArray := prog_2_method_15_code
def y_Control_ramp : MethodName := ⟨"CentrifugeUnit$Control", "ramp", "(II)Z"⟩
theorem d_Control_ramp_0 : decode bc_Control_ramp 0 = .ok (.aload_n 0, 1) := by decide +kernel
theorem d_Control_ramp_1 : decode bc_Control_ramp 1 = .ok (.getfield 47, 3) := by decide +kernel
theorem d_Control_ramp_4 : decode bc_Control_ramp 4 = .ok (.getfield 105, 3) := by decide +kernel
theorem d_Control_ramp_7 : decode bc_Control_ramp 7 = .ok (.istore_n 3, 1) := by decide +kernel
theorem d_Control_ramp_8 : decode bc_Control_ramp 8 = .ok (.aload_n 0, 1) := by decide +kernel
theorem d_Control_ramp_9 : decode bc_Control_ramp 9 = .ok (.getfield 21, 3) := by decide +kernel
theorem d_Control_ramp_12 : decode bc_Control_ramp 12 = .ok (.getfield 190, 3) := by decide +kernel
theorem d_Control_ramp_15 : decode bc_Control_ramp 15 = .ok (.iconst 1, 1) := by decide +kernel
theorem d_Control_ramp_16 : decode bc_Control_ramp 16 = .ok (.if_icmp .ne 11, 3) := by decide +kernel
theorem d_Control_ramp_19 : decode bc_Control_ramp 19 = .ok (.aload_n 0, 1) := by decide +kernel
theorem d_Control_ramp_20 : decode bc_Control_ramp 20 = .ok (.getfield 21, 3) := by decide +kernel
theorem d_Control_ramp_23 : decode bc_Control_ramp 23 = .ok (.iload_n 3, 1) := by decide +kernel
theorem d_Control_ramp_24 : decode bc_Control_ramp 24 = .ok (.putfield 208, 3) := by decide +kernel
theorem d_Control_ramp_27 : decode bc_Control_ramp 27 = .ok (.aload_n 0, 1) := by decide +kernel
theorem d_Control_ramp_28 : decode bc_Control_ramp 28 = .ok (.getfield 21, 3) := by decide +kernel
theorem d_Control_ramp_31 : decode bc_Control_ramp 31 = .ok (.iload_n 1, 1) := by decide +kernel
theorem d_Control_ramp_32 : decode bc_Control_ramp 32 = .ok (.iload_n 2, 1) := by decide +kernel
theorem d_Control_ramp_33 : decode bc_Control_ramp 33 = .ok (.invokevirtual 211, 3) := by decide +kernel
theorem d_Control_ramp_36 : decode bc_Control_ramp 36 = .ok (.aload_n 0, 1) := by decide +kernel
theorem d_Control_ramp_37 : decode bc_Control_ramp 37 = .ok (.invokevirtual 203, 3) := by decide +kernel
theorem d_Control_ramp_40 : decode bc_Control_ramp 40 = .ok (.aload_n 0, 1) := by decide +kernel
theorem d_Control_ramp_41 : decode bc_Control_ramp 41 = .ok (.getfield 21, 3) := by decide +kernel
theorem d_Control_ramp_44 : decode bc_Control_ramp 44 = .ok (.getfield 208, 3) := by decide +kernel
theorem d_Control_ramp_47 : decode bc_Control_ramp 47 = .ok (.iload_n 1, 1) := by decide +kernel
theorem d_Control_ramp_48 : decode bc_Control_ramp 48 = .ok (.if_icmp .ne 18, 3) := by decide +kernel
theorem d_Control_ramp_51 : decode bc_Control_ramp 51 = .ok (.iload_n 3, 1) := by decide +kernel
theorem d_Control_ramp_52 : decode bc_Control_ramp 52 = .ok (.iload_n 1, 1) := by decide +kernel
theorem d_Control_ramp_53 : decode bc_Control_ramp 53 = .ok (.isub, 1) := by decide +kernel
theorem d_Control_ramp_54 : decode bc_Control_ramp 54 = .ok (.invokestatic 215, 3) := by decide +kernel
theorem d_Control_ramp_57 : decode bc_Control_ramp 57 = .ok (.bipush 100, 2) := by decide +kernel
theorem d_Control_ramp_59 : decode bc_Control_ramp 59 = .ok (.if_icmp .gt 7, 3) := by decide +kernel
theorem d_Control_ramp_62 : decode bc_Control_ramp 62 = .ok (.iconst 1, 1) := by decide +kernel
theorem d_Control_ramp_63 : decode bc_Control_ramp 63 = .ok (.goto 4, 3) := by decide +kernel
theorem d_Control_ramp_66 : decode bc_Control_ramp 66 = .ok (.iconst 0, 1) := by decide +kernel
theorem d_Control_ramp_67 : decode bc_Control_ramp 67 = .ok (.ireturn, 1) := by decide +kernel
abbrev ap_Control_ramp (M : XM) (u : (Int32 × Int32 × Int32)) : XM := ((va_up (va_up (va_up M.1 28 (u.1)) 16 (u.2.1)) 17 (u.2.2)), M.2)
def F_Control_ramp_k5 (M : XM) (a1 : Int32) (a2 : Int32) (j1 : Int32) (u3 : Int32) (u4 : (Int32 × Int32)) (z6 : Int32) : Int32 × (Int32 × Int32 × Int32) := (if 100 < z6 then (0, (u3, (u4.1), (u4.2))) else (1, (u3, (u4.1), (u4.2))))
def F_Control_ramp_k4 (M : XM) (a1 : Int32) (a2 : Int32) (j1 : Int32) (u3 : Int32) (u4 : (Int32 × Int32)) : Int32 × (Int32 × Int32 × Int32) := (if u3 = a1 then (F_Control_ramp_k5 M a1 a2 j1 u3 u4 (if 0 ≤ ((M.1 6) - a1) then ((M.1 6) - a1) else 0 - ((M.1 6) - a1))) else (0, (u3, (u4.1), (u4.2))))
def F_Control_ramp_k3 (M : XM) (a1 : Int32) (a2 : Int32) (j1 : Int32) (u3 : Int32) : Int32 × (Int32 × Int32 × Int32) := (F_Control_ramp_k4 M a1 a2 j1 u3 (F_Control_keepToGoal ((va_up M.1 28 u3), M.2)))
def F_Control_ramp_k2 (M : XM) (a1 : Int32) (a2 : Int32) (j1 : Int32) : Int32 × (Int32 × Int32 × Int32) := (F_Control_ramp_k3 M a1 a2 j1 (F_Run_moveGoal ((va_up M.1 28 j1), M.2) a1 a2))
def F_Control_ramp_j1 (M : XM) (a1 : Int32) (a2 : Int32) : Int32 := (if (M.1 27) = 1 then (M.1 6) else (M.1 28))
def F_Control_ramp (M : XM) (a1 : Int32) (a2 : Int32) : Int32 × (Int32 × Int32 × Int32) := (F_Control_ramp_k2 M a1 a2 (F_Control_ramp_j1 M a1 a2))
theorem f01_Control_ramp (M : XM) (a1 : Int32) (a2 : Int32) : (F_Control_ramp M a1 a2).1 = 0 ∨ (F_Control_ramp M a1 a2).1 = 1 := by
  simp only [F_Control_ramp_k5, F_Control_ramp_k4, F_Control_ramp_k3, F_Control_ramp_k2, F_Control_ramp_j1, F_Control_ramp]; repeat' split
  all_goals first | exact Or.inl rfl | exact Or.inr rfl | simp
set_option maxHeartbeats 4000000 in
set_option maxRecDepth 100000 in
theorem c_Control_ramp (l : Launch) (dC : Nat → ClassId) (dI : Nat → Nat → Nat) (Z : Nat → ClassId) (A : Nat → Nat) (sz : Nat) (M : XM) (a1 : Int32) (a2 : Int32) : Met l y_Control_ramp (.code y_Control_ramp bc_Control_ramp 4 (some .boolean) :: xw) ({ frames := 2, cells := 0, slots := 0, locals := 45 }) (va_Pc [.ref (A 17), .int a1, .int a2] (xB (dC, dI) xcl (xty Z) sz [(A 17, xc17 Z A M), (A 19, xc19 Z A M), (A 11, xc11 Z A M)])) (va_Qi (fun (r : Int32) (u : (Int32 × Int32 × Int32)) => (r, u) = F_Control_ramp M a1 a2) (fun u => xE (dC, dI) xcl (xty Z) (va_A [(A 17, xc17 Z A M), (A 19, xc19 Z A M), (A 11, xc11 Z A M)] sz) [(A 17, xc17 Z A (ap_Control_ramp M u)), (A 19, xc19 Z A (ap_Control_ramp M u)), (A 11, xc11 Z A (ap_Control_ramp M u))]) (va_A [(A 17, xc17 Z A M), (A 19, xc19 Z A M), (A 11, xc11 Z A M)] sz)) 0 0 (va_A [(A 17, xc17 Z A M), (A 19, xc19 Z A M), (A 11, xc11 Z A M)] sz) := by
  refine Met.ofW (cc := bc_Control_ramp) (maxL := 4) (ret := (some .boolean)) (by decide) rfl ?_
  intro p e s m args below meth c s₁ B hml hv
  obtain ⟨rfl, hsz, hP, hK, hD0, hq⟩ := hv
  have hx := B.exec
  have hb := B.bytes
  have hr := B.returns
  have hts := atoms_spec (ws := (.code y_Control_ramp bc_Control_ramp 4 (some .boolean) :: xw)) B.pre
  have htt : ∀ w ∈ xw, w.before _ s = true := fun w h => hts w (List.mem_cons_of_mem _ h)
  have hown : s.vm.findClass "CentrifugeUnit$Control" = some m.cls := findClass_of_methodNamed B.named
  have hlocks := B.notSynchronized
  subst hsz
  have hD := hD0.self (sz := s.heap.size)
  generalize hAe : va_A [(A 17, xc17 Z A M), (A 19, xc19 Z A M), (A 11, xc11 Z A M)] s.heap.size = AA at hD ⊢
  have hA : ∀ q : Nat, s.heap.size ≤ q → AA q := fun q h => by rw [← hAe]; exact Or.inr h
  have hS : va_S AA s.heap s.heap [] := va_S.rf
  have hP : va_P (dC, dI) xcl [(A 17, .inr (0, [.ref (A 1), .ref (A 6), .ref (A 11), .ref (A 12), .ref (A 13), .ref (A 18), .ref (A 19), .int (M.1 12), .int (M.1 13), .int (M.1 14), .int (M.1 15), .int (M.1 16), .int (M.1 17), .int (M.1 18)])), (A 19, .inr (6, [.long (M.2.1 1), .long (M.2.1 2), .int (M.1 23), .int (M.1 24), .int (M.1 25), .int (M.1 26), .int (M.1 27), .int (M.1 28)])), (A 11, .inr (7, [.int (M.1 2), .int (M.1 3), .int (M.1 4), .int (M.1 5), .int (M.1 6), .int (M.1 7)]))] s.heap := hP
  have hD : va_D AA [(A 17, .inr (0, [.ref (A 1), .ref (A 6), .ref (A 11), .ref (A 12), .ref (A 13), .ref (A 18), .ref (A 19), .int (M.1 12), .int (M.1 13), .int (M.1 14), .int (M.1 15), .int (M.1 16), .int (M.1 17), .int (M.1 18)])), (A 19, .inr (6, [.long (M.2.1 1), .long (M.2.1 2), .int (M.1 23), .int (M.1 24), .int (M.1 25), .int (M.1 26), .int (M.1 27), .int (M.1 28)])), (A 11, .inr (7, [.int (M.1 2), .int (M.1 3), .int (M.1 4), .int (M.1 5), .int (M.1 6), .int (M.1 7)]))] := hD
  have hl := lv_entry ([.ref (A 17), .int a1, .int a2]) (n := 4) (Nat.le_of_ble_eq_true rfl)
  rw [lg_entry_eq]
  generalize (lg_sl ([.ref (A 17), .int a1, .int a2]) ++ List.replicate (4 - (lg_sl ([.ref (A 17), .int a1, .int a2])).length) Slot.unset).toArray = ls at hl ⊢
  have hl : lv_has ls 4 [(0, .ref (A 17)), (1, .int a1), (2, .int a2)] := hl
  refine lv_aload_n hx hb d_Control_ramp_0 rfl (lv_at hl 0 rfl) ?_
  refine va_get (D := (dC, dI)) (ci := 0) (v := .ref (A 11)) (C := "CentrifugeUnit$Control") (T := xF0) (N := 14) hx hb htt xin0 hown hK hP 0 rfl rfl 2 (by decide) (htt _ tw_233) (fun _ h9 => h9) rfl d_Control_ramp_1 ?_
  refine va_get (D := (dC, dI)) (ci := 7) (v := .int (M.1 6)) (C := "CentrifugeUnit$Sensors") (T := xF7) (N := 6) hx hb htt xin7 hown hK hP 2 rfl rfl 4 (by decide) (htt _ tw_105) (fun _ h9 => h9) rfl d_Control_ramp_4 ?_
  refine lv_istore_n (lv' := [(3, .int (M.1 6)), (0, .ref (A 17)), (1, .int a1), (2, .int a2)]) hx hb d_Control_ramp_7 rfl hl (by decide) rfl (fun ls hl => ?_)
  refine lv_aload_n hx hb d_Control_ramp_8 rfl (lv_at hl 1 rfl) ?_
  refine va_get (D := (dC, dI)) (ci := 0) (v := .ref (A 19)) (C := "CentrifugeUnit$Control") (T := xF0) (N := 14) hx hb htt xin0 hown hK hP 0 rfl rfl 6 (by decide) (htt _ tw_238) (fun _ h9 => h9) rfl d_Control_ramp_9 ?_
  refine va_get (D := (dC, dI)) (ci := 6) (v := .int (M.1 27)) (C := "CentrifugeUnit$Run") (T := xF6) (N := 8) hx hb htt xin6 hown hK hP 1 rfl rfl 6 (by decide) (htt _ tw_210) (fun _ h9 => h9) rfl d_Control_ramp_12 ?_
  refine lv_iconst (v := 1) hx hb d_Control_ramp_15 (by decide) ?_
  refine xj_h (D := (dC, dI)) (cl := xcl) (AA := AA) (H0 := s.heap) 4 27 (fun q9 : Int32 => [(3, .int (M.1 6)), (0, .ref (A 17)), (1, .int a1), (2, .int a2)]) (fun q9 : Int32 => []) (fun q9 : Int32 => [(A 17, .inr (0, [.ref (A 1), .ref (A 6), .ref (A 11), .ref (A 12), .ref (A 13), .ref (A 18), .ref (A 19), .int (M.1 12), .int (M.1 13), .int (M.1 14), .int (M.1 15), .int (M.1 16), .int (M.1 17), .int (M.1 18)])), (A 19, .inr (6, [.long (M.2.1 1), .long (M.2.1 2), .int (M.1 23), .int (M.1 24), .int (M.1 25), .int (M.1 26), .int (M.1 27), .int q9])), (A 11, .inr (7, [.int (M.1 2), .int (M.1 3), .int (M.1 4), .int (M.1 5), .int (M.1 6), .int (M.1 7)]))]) (fun q9 : Int32 => q9 = F_Control_ramp_j1 M a1 a2) (fun hJ2 => ?_) (fun H locs ls j1 hP hD hS hl hj1 => ?_)
  · refine lv_icmp_ne (tgt := 27) hx hb d_Control_ramp_16 rfl (fun h8 => ?_) (fun h8 => ?_)
    · exact hJ2 _ _ _ (M.1 28) (hP.sub [0, 1, 2] rfl) (hD.sub [0, 1, 2] (by decide) rfl) hS (lv_sub hl [0, 1, 2, 3] rfl) (by rw [F_Control_ramp_j1, if_neg h8])
    · refine lv_aload_n hx hb d_Control_ramp_19 rfl (lv_at hl 1 rfl) ?_
      refine va_get (D := (dC, dI)) (ci := 0) (v := .ref (A 19)) (C := "CentrifugeUnit$Control") (T := xF0) (N := 14) hx hb htt xin0 hown hK hP 0 rfl rfl 6 (by decide) (htt _ tw_238) (fun _ h9 => h9) rfl d_Control_ramp_20 ?_
      refine lv_iload_n hx hb d_Control_ramp_23 rfl (lv_at hl 0 rfl) ?_
      refine va_put (D := (dC, dI)) (ci := 6) (v := .int (M.1 6)) (ty := .int) (C := "CentrifugeUnit$Run") (T := xF6) (N := 8) hx hb htt xin6 xT6 xTo6 xNm6 hown hK hP hD hS 1 rfl rfl 7 (by decide) (htt _ tw_213) (fun _ h9 => h9) rfl (by decide +kernel) rfl rfl (Nat.le_of_ble_eq_true rfl) d_Control_ramp_24 (fun H locs hP hD hS => ?_)
      have hP : va_P (dC, dI) xcl [(A 17, .inr (0, [.ref (A 1), .ref (A 6), .ref (A 11), .ref (A 12), .ref (A 13), .ref (A 18), .ref (A 19), .int (M.1 12), .int (M.1 13), .int (M.1 14), .int (M.1 15), .int (M.1 16), .int (M.1 17), .int (M.1 18)])), (A 19, .inr (6, [.long (M.2.1 1), .long (M.2.1 2), .int (M.1 23), .int (M.1 24), .int (M.1 25), .int (M.1 26), .int (M.1 27), .int (M.1 6)])), (A 11, .inr (7, [.int (M.1 2), .int (M.1 3), .int (M.1 4), .int (M.1 5), .int (M.1 6), .int (M.1 7)]))] H := hP
      have hD : va_D AA [(A 17, .inr (0, [.ref (A 1), .ref (A 6), .ref (A 11), .ref (A 12), .ref (A 13), .ref (A 18), .ref (A 19), .int (M.1 12), .int (M.1 13), .int (M.1 14), .int (M.1 15), .int (M.1 16), .int (M.1 17), .int (M.1 18)])), (A 19, .inr (6, [.long (M.2.1 1), .long (M.2.1 2), .int (M.1 23), .int (M.1 24), .int (M.1 25), .int (M.1 26), .int (M.1 27), .int (M.1 6)])), (A 11, .inr (7, [.int (M.1 2), .int (M.1 3), .int (M.1 4), .int (M.1 5), .int (M.1 6), .int (M.1 7)]))] := hD
      exact hJ2 _ _ _ (M.1 6) (hP.sub [0, 1, 2] rfl) (hD.sub [0, 1, 2] (by decide) rfl) hS (lv_sub hl [0, 1, 2, 3] rfl) (by rw [F_Control_ramp_j1, if_pos h8])
  · refine lv_aload_n hx hb d_Control_ramp_27 rfl (lv_at hl 1 rfl) ?_
    refine va_get (D := (dC, dI)) (ci := 0) (v := .ref (A 19)) (C := "CentrifugeUnit$Control") (T := xF0) (N := 14) hx hb htt xin0 hown hK hP 0 rfl rfl 6 (by decide) (htt _ tw_238) (fun _ h9 => h9) rfl d_Control_ramp_28 ?_
    refine lv_iload_n hx hb d_Control_ramp_31 rfl (lv_at hl 2 rfl) ?_
    refine lv_iload_n hx hb d_Control_ramp_32 rfl (lv_at hl 3 rfl) ?_
    have hPc := hP.sub (ws' := [(A 19, xc19 Z A ((va_up M.1 28 j1), M.2))]) [1] rfl
    have hDc := hD.sub (ws' := [(A 19, xc19 Z A ((va_up M.1 28 j1), M.2))]) [1] (by decide) rfl
    refine xk_v (wc := [(A 19, xc19 Z A ((va_up M.1 28 j1), M.2))]) (wr := [(A 17, .inr (0, [.ref (A 1), .ref (A 6), .ref (A 11), .ref (A 12), .ref (A 13), .ref (A 18), .ref (A 19), .int (M.1 12), .int (M.1 13), .int (M.1 14), .int (M.1 15), .int (M.1 16), .int (M.1 17), .int (M.1 18)])), (A 11, .inr (7, [.int (M.1 2), .int (M.1 3), .int (M.1 4), .int (M.1 5), .int (M.1 6), .int (M.1 7)]))]) (va_runV (As := [.int a1, .int a2]) (rest := []) ⟨hx, hb, hml, hown, hts⟩ (c_Run_moveGoal l dC dI Z A _ ((va_up M.1 28 j1), M.2) a1 a2) (cwV 2 hts (xw_V _ tw_677 tw_678 tw_679 tw_11 tw_680) rfl rfl rfl (by decide +kernel) ⟨Nat.le_of_ble_eq_true rfl, Nat.le_of_ble_eq_true rfl⟩) ⟨xB_blind, va_recv (q0 := 1) (ci := 6) hK hP rfl rfl, fun U hU hW => ⟨rfl, xB_at hPc hK hDc hq U hU hW⟩⟩ rfl rfl hl.1 rfl (lv_room (Nat.le_of_ble_eq_true rfl)) d_Control_ramp_33 ⟨Nat.le_of_ble_eq_true rfl, Nat.le_of_ble_eq_true rfl⟩) hP hD hS hA [1] [0, 2] rfl rfl (by decide) (by decide) (fun u3 H locs hu3 hP hD hS => ?_)
    have hP : va_P (dC, dI) xcl [(A 17, .inr (0, [.ref (A 1), .ref (A 6), .ref (A 11), .ref (A 12), .ref (A 13), .ref (A 18), .ref (A 19), .int (M.1 12), .int (M.1 13), .int (M.1 14), .int (M.1 15), .int (M.1 16), .int (M.1 17), .int (M.1 18)])), (A 11, .inr (7, [.int (M.1 2), .int (M.1 3), .int (M.1 4), .int (M.1 5), .int (M.1 6), .int (M.1 7)])), (A 19, .inr (6, [.long (M.2.1 1), .long (M.2.1 2), .int (M.1 23), .int (M.1 24), .int (M.1 25), .int (M.1 26), .int (M.1 27), .int u3]))] H := hP
    have hD : va_D AA [(A 17, .inr (0, [.ref (A 1), .ref (A 6), .ref (A 11), .ref (A 12), .ref (A 13), .ref (A 18), .ref (A 19), .int (M.1 12), .int (M.1 13), .int (M.1 14), .int (M.1 15), .int (M.1 16), .int (M.1 17), .int (M.1 18)])), (A 11, .inr (7, [.int (M.1 2), .int (M.1 3), .int (M.1 4), .int (M.1 5), .int (M.1 6), .int (M.1 7)])), (A 19, .inr (6, [.long (M.2.1 1), .long (M.2.1 2), .int (M.1 23), .int (M.1 24), .int (M.1 25), .int (M.1 26), .int (M.1 27), .int u3]))] := hD
    refine lv_aload_n hx hb d_Control_ramp_36 rfl (lv_at hl 1 rfl) ?_
    have hPc := hP.sub (ws' := [(A 17, xc17 Z A ((va_up M.1 28 u3), M.2)), (A 19, xc19 Z A ((va_up M.1 28 u3), M.2)), (A 11, xc11 Z A ((va_up M.1 28 u3), M.2))]) [0, 2, 1] rfl
    have hDc := hD.sub (ws' := [(A 17, xc17 Z A ((va_up M.1 28 u3), M.2)), (A 19, xc19 Z A ((va_up M.1 28 u3), M.2)), (A 11, xc11 Z A ((va_up M.1 28 u3), M.2))]) [0, 2, 1] (by decide) rfl
    refine xk_v (wc := [(A 17, xc17 Z A ((va_up M.1 28 u3), M.2)), (A 19, xc19 Z A ((va_up M.1 28 u3), M.2)), (A 11, xc11 Z A ((va_up M.1 28 u3), M.2))]) (wr := []) (va_runV (As := []) (rest := []) ⟨hx, hb, hml, hown, hts⟩ (c_Control_keepToGoal l dC dI Z A _ ((va_up M.1 28 u3), M.2)) (cwV 0 hts (xw_V _ tw_683 tw_685 tp_9 tw_9 tw_686) rfl rfl rfl (by decide +kernel) ⟨Nat.le_of_ble_eq_true rfl, Nat.le_of_ble_eq_true rfl⟩) ⟨xB_blind, va_recv (q0 := 0) (ci := 0) hK hP rfl rfl, fun U hU hW => ⟨rfl, xB_at hPc hK hDc hq U hU hW⟩⟩ rfl rfl hl.1 rfl (lv_room (Nat.le_of_ble_eq_true rfl)) d_Control_ramp_37 ⟨Nat.le_of_ble_eq_true rfl, Nat.le_of_ble_eq_true rfl⟩) hP hD hS hA [0, 2, 1] [] rfl rfl (by decide) (by decide) (fun u4 H locs hu4 hP hD hS => ?_)
    have hP : va_P (dC, dI) xcl [(A 17, .inr (0, [.ref (A 1), .ref (A 6), .ref (A 11), .ref (A 12), .ref (A 13), .ref (A 18), .ref (A 19), .int (M.1 12), .int (M.1 13), .int (M.1 14), .int (M.1 15), .int (u4.1), .int (u4.2), .int (M.1 18)])), (A 19, .inr (6, [.long (M.2.1 1), .long (M.2.1 2), .int (M.1 23), .int (M.1 24), .int (M.1 25), .int (M.1 26), .int (M.1 27), .int u3])), (A 11, .inr (7, [.int (M.1 2), .int (M.1 3), .int (M.1 4), .int (M.1 5), .int (M.1 6), .int (M.1 7)]))] H := hP
    have hD : va_D AA [(A 17, .inr (0, [.ref (A 1), .ref (A 6), .ref (A 11), .ref (A 12), .ref (A 13), .ref (A 18), .ref (A 19), .int (M.1 12), .int (M.1 13), .int (M.1 14), .int (M.1 15), .int (u4.1), .int (u4.2), .int (M.1 18)])), (A 19, .inr (6, [.long (M.2.1 1), .long (M.2.1 2), .int (M.1 23), .int (M.1 24), .int (M.1 25), .int (M.1 26), .int (M.1 27), .int u3])), (A 11, .inr (7, [.int (M.1 2), .int (M.1 3), .int (M.1 4), .int (M.1 5), .int (M.1 6), .int (M.1 7)]))] := hD
    refine lv_aload_n hx hb d_Control_ramp_40 rfl (lv_at hl 1 rfl) ?_
    refine va_get (D := (dC, dI)) (ci := 0) (v := .ref (A 19)) (C := "CentrifugeUnit$Control") (T := xF0) (N := 14) hx hb htt xin0 hown hK hP 0 rfl rfl 6 (by decide) (htt _ tw_238) (fun _ h9 => h9) rfl d_Control_ramp_41 ?_
    refine va_get (D := (dC, dI)) (ci := 6) (v := .int u3) (C := "CentrifugeUnit$Run") (T := xF6) (N := 8) hx hb htt xin6 hown hK hP 1 rfl rfl 7 (by decide) (htt _ tw_213) (fun _ h9 => h9) rfl d_Control_ramp_44 ?_
    refine lv_iload_n hx hb d_Control_ramp_47 rfl (lv_at hl 2 rfl) ?_
    refine lv_icmp_ne (tgt := 66) hx hb d_Control_ramp_48 rfl (fun h5 => ?_) (fun h5 => ?_)
    · refine lv_iconst (v := 0) hx hb d_Control_ramp_66 (by decide) ?_
      have hP9 := hP.sub (ws' := [(A 17, xc17 Z A (ap_Control_ramp M (u3, (u4.1), (u4.2)))), (A 19, xc19 Z A (ap_Control_ramp M (u3, (u4.1), (u4.2)))), (A 11, xc11 Z A (ap_Control_ramp M (u3, (u4.1), (u4.2))))]) [0, 1, 2] rfl
      have hD9 := hD.sub (ws' := [(A 17, xc17 Z A (ap_Control_ramp M (u3, (u4.1), (u4.2)))), (A 19, xc19 Z A (ap_Control_ramp M (u3, (u4.1), (u4.2)))), (A 11, xc11 Z A (ap_Control_ramp M (u3, (u4.1), (u4.2))))]) [0, 1, 2] (by decide) rfl
      exact W.zret (ty := .boolean) hx hb hr rfl (fun t ht hW => ⟨⟨0, (u3, (u4.1), (u4.2)), rfl, (by rw [F_Control_ramp, ← hj1, F_Control_ramp_k2, ← hu3, F_Control_ramp_k3, ← hu4, F_Control_ramp_k4, if_neg h5]), xE_at hP9 hK hD9 ht hW⟩, hS.F ht⟩) hS.2.2 d_Control_ramp_67
    · refine lv_iload_n hx hb d_Control_ramp_51 rfl (lv_at hl 0 rfl) ?_
      refine lv_iload_n hx hb d_Control_ramp_52 rfl (lv_at hl 2 rfl) ?_
      refine lv_isub hx hb d_Control_ramp_53 ?_
      refine va_mabs hx hb (hml.trans hl.1.symm) hown (htt _ tw_688) (htt _ tw_689) (htt _ tw_18) (htt _ tw_690) (Nat.le_of_ble_eq_true rfl) (Nat.le_of_ble_eq_true rfl) (Nat.le_of_ble_eq_true rfl) (Nat.le_of_ble_eq_true rfl) d_Control_ramp_54 ?_
      refine lv_topi (fun z6 hz6 => ?_)
      refine lv_bipush (v := 100) hx hb d_Control_ramp_57 (by decide) ?_
      refine lv_icmp_gt (tgt := 66) hx hb d_Control_ramp_59 rfl (fun h7 => ?_) (fun h7 => ?_)
      · refine lv_iconst (v := 0) hx hb d_Control_ramp_66 (by decide) ?_
        have hP9 := hP.sub (ws' := [(A 17, xc17 Z A (ap_Control_ramp M (u3, (u4.1), (u4.2)))), (A 19, xc19 Z A (ap_Control_ramp M (u3, (u4.1), (u4.2)))), (A 11, xc11 Z A (ap_Control_ramp M (u3, (u4.1), (u4.2))))]) [0, 1, 2] rfl
        have hD9 := hD.sub (ws' := [(A 17, xc17 Z A (ap_Control_ramp M (u3, (u4.1), (u4.2)))), (A 19, xc19 Z A (ap_Control_ramp M (u3, (u4.1), (u4.2)))), (A 11, xc11 Z A (ap_Control_ramp M (u3, (u4.1), (u4.2))))]) [0, 1, 2] (by decide) rfl
        exact W.zret (ty := .boolean) hx hb hr rfl (fun t ht hW => ⟨⟨0, (u3, (u4.1), (u4.2)), rfl, (by rw [F_Control_ramp, ← hj1, F_Control_ramp_k2, ← hu3, F_Control_ramp_k3, ← hu4, F_Control_ramp_k4, if_pos h5, ← hz6, F_Control_ramp_k5, if_pos h7]), xE_at hP9 hK hD9 ht hW⟩, hS.F ht⟩) hS.2.2 d_Control_ramp_67
      · refine lv_iconst (v := 1) hx hb d_Control_ramp_62 (by decide) ?_
        refine lv_goto (tgt := 67) hx hb d_Control_ramp_63 rfl ?_
        have hP9 := hP.sub (ws' := [(A 17, xc17 Z A (ap_Control_ramp M (u3, (u4.1), (u4.2)))), (A 19, xc19 Z A (ap_Control_ramp M (u3, (u4.1), (u4.2)))), (A 11, xc11 Z A (ap_Control_ramp M (u3, (u4.1), (u4.2))))]) [0, 1, 2] rfl
        have hD9 := hD.sub (ws' := [(A 17, xc17 Z A (ap_Control_ramp M (u3, (u4.1), (u4.2)))), (A 19, xc19 Z A (ap_Control_ramp M (u3, (u4.1), (u4.2)))), (A 11, xc11 Z A (ap_Control_ramp M (u3, (u4.1), (u4.2))))]) [0, 1, 2] (by decide) rfl
        exact W.zret (ty := .boolean) hx hb hr rfl (fun t ht hW => ⟨⟨1, (u3, (u4.1), (u4.2)), rfl, (by rw [F_Control_ramp, ← hj1, F_Control_ramp_k2, ← hu3, F_Control_ramp_k3, ← hu4, F_Control_ramp_k4, if_pos h5, ← hz6, F_Control_ramp_k5, if_neg h7]), xE_at hP9 hK hD9 ht hW⟩, hS.F ht⟩) hS.2.2 d_Control_ramp_67
