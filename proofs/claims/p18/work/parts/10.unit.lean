abbrev bc_U_put : ByteArray := prog_1_method_3_code
def y_U_put : MethodName := ⟨"CentrifugeUnit", "put", "(I)V"⟩
theorem d_U_put_0 : decode bc_U_put 0 = .ok (.iload_n 1, 1) := by decide +kernel
theorem d_U_put_1 : decode bc_U_put 1 = .ok (.iconst (-1), 1) := by decide +kernel
theorem d_U_put_2 : decode bc_U_put 2 = .ok (.if_icmp .eq 20, 3) := by decide +kernel
theorem d_U_put_5 : decode bc_U_put 5 = .ok (.iload_n 1, 1) := by decide +kernel
theorem d_U_put_6 : decode bc_U_put 6 = .ok (.invokestatic 88, 3) := by decide +kernel
theorem d_U_put_9 : decode bc_U_put 9 = .ok (.ifCond .ne 13, 3) := by decide +kernel
theorem d_U_put_12 : decode bc_U_put 12 = .ok (.new 68, 3) := by decide +kernel
theorem d_U_put_15 : decode bc_U_put 15 = .ok (.dup, 1) := by decide +kernel
theorem d_U_put_16 : decode bc_U_put 16 = .ok (.ldc 91, 2) := by decide +kernel
theorem d_U_put_18 : decode bc_U_put 18 = .ok (.invokespecial 72, 3) := by decide +kernel
theorem d_U_put_21 : decode bc_U_put 21 = .ok (.athrow, 1) := by decide +kernel
def T_U_put_k1 (M : XM) (a1 : Int32) (z2 : Int32) : Nat := (if z2 = 0 then 1 else 0)
def T_U_put (M : XM) (a1 : Int32) : Nat := (if a1 = (-1) then 0 else (T_U_put_k1 M a1 (F_Rotors_exists M a1)))
set_option maxHeartbeats 4000000 in
set_option maxRecDepth 100000 in
theorem t1_U_put (l : Launch) (dC : Nat → ClassId) (dI : Nat → Nat → Nat) (Z : Nat → ClassId) (A : Nat → Nat) (sz : Nat) (M : XM) (a1 : Int32) (htl : l.stackTraces = false) (hT : T_U_put M a1 = 1) : MetT l y_U_put (.code y_U_put bc_U_put 2 none :: xw) ({ frames := 6, cells := 1, slots := 6, locals := 90 }) (va_Pc [.ref (A 0), .int a1] (xBs (dC, dI) xcl (xty Z) sz [(A 0, xc0 Z A M), (A 1, xc1 Z A M)])) xIAE 1 6 := by
  refine MetT.ofW (cc := bc_U_put) (maxL := 2) (ret := none) (by decide) rfl ?_
  intro p e s m args below meth c s₁ B hml hv
  obtain ⟨rfl, ⟨hsz, hP, hK, hD0, hq⟩, hs⟩ := hv
  have hx := B.exec
  have hb := B.bytes
  have hts := atoms_spec (ws := (.code y_U_put bc_U_put 2 none :: xw)) B.pre
  have htt : ∀ w ∈ xw, w.before _ s = true := fun w h => hts w (List.mem_cons_of_mem _ h)
  have hown : s.vm.findClass "CentrifugeUnit" = some m.cls := findClass_of_methodNamed B.named
  have hlocks := B.notSynchronized
  subst hsz
  have hD : va_D (fun _ => True) [(A 0, .inr (9, [.ref (A 1), .ref (A 6), .ref (A 10), .ref (A 11), .ref (A 12), .ref (A 13), .ref (A 17)])), (A 1, .inr (5, [.ref (A 2), .ref (A 3), .ref (A 4), .ref (A 5), .int (M.1 0)]))] := hD0
  have hP : va_P (dC, dI) xcl [(A 0, .inr (9, [.ref (A 1), .ref (A 6), .ref (A 10), .ref (A 11), .ref (A 12), .ref (A 13), .ref (A 17)])), (A 1, .inr (5, [.ref (A 2), .ref (A 3), .ref (A 4), .ref (A 5), .int (M.1 0)]))] s.heap := hP
  have hl := lv_entry ([.ref (A 0), .int a1]) (n := 2) (Nat.le_of_ble_eq_true rfl)
  rw [lg_entry_eq]
  generalize (lg_sl ([.ref (A 0), .int a1]) ++ List.replicate (2 - (lg_sl ([.ref (A 0), .int a1])).length) Slot.unset).toArray = ls at hl ⊢
  have hl : lv_has ls 2 [(0, .ref (A 0)), (1, .int a1)] := hl
  refine lv_iload_n hx hb d_U_put_0 rfl (lv_at hl 1 rfl) ?_
  refine lv_iconst (v := (-1)) hx hb d_U_put_1 (by decide) ?_
  refine lv_icmp_eq (tgt := 22) hx hb d_U_put_2 rfl (fun h1 => ?_) (fun h1 => ?_)
  · exact absurd hT (by rw [T_U_put, if_pos h1]; exact (by decide : ¬ (0 : Nat) = 1))
  · refine lv_iload_n hx hb d_U_put_5 rfl (lv_at hl 1 rfl) ?_
    have hPc := hP.sub (ws' := []) [] rfl
    have hDc := hD.sub (ws' := []) [] (by decide) rfl
    refine xk_p (va_runS (As := [.int a1]) (rest := []) ⟨hx, hb, hml, hown, hts⟩ (c_Rotors_exists l dC dI Z A _ M a1) (va_cwS 1 hts (xw_S _ tw_452 tw_323 tw_2 tw_324) rfl rfl rfl (by decide +kernel) ⟨Nat.le_of_ble_eq_true rfl, Nat.le_of_ble_eq_true rfl⟩) ⟨xB_blind, fun U hU hW => ⟨rfl, xB_at hPc hK hDc hq U hU hW⟩⟩ rfl rfl hl.1 rfl (lv_room (Nat.le_of_ble_eq_true rfl)) d_U_put_6 ⟨Nat.le_of_ble_eq_true rfl, Nat.le_of_ble_eq_true rfl⟩) ?_
    refine lv_topi (fun z2 hz2 => ?_)
    refine lv_if_ne (tgt := 22) hx hb d_U_put_9 rfl (fun h3 => ?_) (fun h3 => ?_)
    · exact absurd hT (by rw [T_U_put, if_neg h1, ← hz2, T_U_put_k1, if_neg h3]; exact (by decide : ¬ (0 : Nat) = 1))
    · obtain ⟨q9, hZ⟩ := hq.2.1 ("CentrifugeUnit", 91, "no such rotor") (by decide +kernel)
      exact xt_throw (names := ["java/lang/RuntimeException", "java/lang/Exception"]) hx hb htl hown (htt _ tw_353) (htt _ tw_354) (htt _ tw_16) hZ (xo_all htt hq hs xo_1_72) (by decide) (by decide) d_U_put_12 d_U_put_15 d_U_put_16 d_U_put_18 d_U_put_21 (B.noHandlers (hts _ List.mem_cons_self)) (hl.1.trans hml.symm) hlocks (by decide) (by decide) (by decide) (by decide)
theorem d_U_put_22 : decode bc_U_put 22 = .ok (.aload_n 0, 1) := by decide +kernel
theorem d_U_put_23 : decode bc_U_put 23 = .ok (.getfield 10, 3) := by decide +kernel
theorem d_U_put_26 : decode bc_U_put 26 = .ok (.iload_n 1, 1) := by decide +kernel
theorem d_U_put_27 : decode bc_U_put 27 = .ok (.putfield 93, 3) := by decide +kernel
theorem d_U_put_30 : decode bc_U_put 30 = .ok (.return_, 1) := by decide +kernel
abbrev ap_U_put (M : XM) (u : Int32) : XM := ((va_up M.1 0 u), M.2)
def F_U_put_k1 (M : XM) (a1 : Int32) (z2 : Int32) : (Int32) := (if z2 = 0 then (M.1 0) else a1)
def F_U_put (M : XM) (a1 : Int32) : (Int32) := (if a1 = (-1) then a1 else (F_U_put_k1 M a1 (F_Rotors_exists M a1)))
set_option maxHeartbeats 4000000 in
set_option maxRecDepth 100000 in
theorem c_U_put (l : Launch) (dC : Nat → ClassId) (dI : Nat → Nat → Nat) (Z : Nat → ClassId) (A : Nat → Nat) (sz : Nat) (M : XM) (a1 : Int32) (hT : T_U_put M a1 = 0) : Met l y_U_put (.code y_U_put bc_U_put 2 none :: xw) ({ frames := 2, cells := 0, slots := 0, locals := 42 }) (va_Pc [.ref (A 0), .int a1] (xB (dC, dI) xcl (xty Z) sz [(A 0, xc0 Z A M), (A 1, xc1 Z A M)])) (va_Qv (fun u : Int32 => u = F_U_put M a1) (fun u => xE (dC, dI) xcl (xty Z) (va_A [(A 0, xc0 Z A M), (A 1, xc1 Z A M)] sz) [(A 0, xc0 Z A (ap_U_put M u)), (A 1, xc1 Z A (ap_U_put M u))]) (va_A [(A 0, xc0 Z A M), (A 1, xc1 Z A M)] sz)) 0 0 (va_A [(A 0, xc0 Z A M), (A 1, xc1 Z A M)] sz) := by
  refine Met.ofW (cc := bc_U_put) (maxL := 2) (ret := none) (by decide) rfl ?_
  intro p e s m args below meth c s₁ B hml hv
  obtain ⟨rfl, hsz, hP, hK, hD0, hq⟩ := hv
  have hx := B.exec
  have hb := B.bytes
  have hr := B.returns
  have hts := atoms_spec (ws := (.code y_U_put bc_U_put 2 none :: xw)) B.pre
  have htt : ∀ w ∈ xw, w.before _ s = true := fun w h => hts w (List.mem_cons_of_mem _ h)
  have hown : s.vm.findClass "CentrifugeUnit" = some m.cls := findClass_of_methodNamed B.named
  have hlocks := B.notSynchronized
  subst hsz
  have hD := hD0.self (sz := s.heap.size)
  generalize hAe : va_A [(A 0, xc0 Z A M), (A 1, xc1 Z A M)] s.heap.size = AA at hD ⊢
  have hA : ∀ q : Nat, s.heap.size ≤ q → AA q := fun q h => by rw [← hAe]; exact Or.inr h
  have hS : va_S AA s.heap s.heap [] := va_S.rf
  have hP : va_P (dC, dI) xcl [(A 0, .inr (9, [.ref (A 1), .ref (A 6), .ref (A 10), .ref (A 11), .ref (A 12), .ref (A 13), .ref (A 17)])), (A 1, .inr (5, [.ref (A 2), .ref (A 3), .ref (A 4), .ref (A 5), .int (M.1 0)]))] s.heap := hP
  have hD : va_D AA [(A 0, .inr (9, [.ref (A 1), .ref (A 6), .ref (A 10), .ref (A 11), .ref (A 12), .ref (A 13), .ref (A 17)])), (A 1, .inr (5, [.ref (A 2), .ref (A 3), .ref (A 4), .ref (A 5), .int (M.1 0)]))] := hD
  have hl := lv_entry ([.ref (A 0), .int a1]) (n := 2) (Nat.le_of_ble_eq_true rfl)
  rw [lg_entry_eq]
  generalize (lg_sl ([.ref (A 0), .int a1]) ++ List.replicate (2 - (lg_sl ([.ref (A 0), .int a1])).length) Slot.unset).toArray = ls at hl ⊢
  have hl : lv_has ls 2 [(0, .ref (A 0)), (1, .int a1)] := hl
  refine lv_iload_n hx hb d_U_put_0 rfl (lv_at hl 1 rfl) ?_
  refine lv_iconst (v := (-1)) hx hb d_U_put_1 (by decide) ?_
  refine lv_icmp_eq (tgt := 22) hx hb d_U_put_2 rfl (fun h1 => ?_) (fun h1 => ?_)
  · refine lv_aload_n hx hb d_U_put_22 rfl (lv_at hl 0 rfl) ?_
    refine va_get (D := (dC, dI)) (ci := 9) (v := .ref (A 1)) (C := "CentrifugeUnit") (T := xF9) (N := 7) hx hb htt xin9 hown hK hP 0 rfl rfl 0 (by decide) (htt _ tw_283) (fun _ h9 => h9) rfl d_U_put_23 ?_
    refine lv_iload_n hx hb d_U_put_26 rfl (lv_at hl 1 rfl) ?_
    refine va_put (D := (dC, dI)) (ci := 5) (v := .int a1) (ty := .int) (C := "CentrifugeUnit$Rotors") (T := xF5) (N := 5) hx hb htt xin5 xT5 xTo5 xNm5 hown hK hP hD hS 1 rfl rfl 4 (by decide) (htt _ tw_42) (fun _ h9 => h9) rfl (by decide +kernel) rfl rfl (Nat.le_of_ble_eq_true rfl) d_U_put_27 (fun H locs hP hD hS => ?_)
    have hP : va_P (dC, dI) xcl [(A 0, .inr (9, [.ref (A 1), .ref (A 6), .ref (A 10), .ref (A 11), .ref (A 12), .ref (A 13), .ref (A 17)])), (A 1, .inr (5, [.ref (A 2), .ref (A 3), .ref (A 4), .ref (A 5), .int a1]))] H := hP
    have hD : va_D AA [(A 0, .inr (9, [.ref (A 1), .ref (A 6), .ref (A 10), .ref (A 11), .ref (A 12), .ref (A 13), .ref (A 17)])), (A 1, .inr (5, [.ref (A 2), .ref (A 3), .ref (A 4), .ref (A 5), .int a1]))] := hD
    have hP9 := hP.sub (ws' := [(A 0, xc0 Z A (ap_U_put M a1)), (A 1, xc1 Z A (ap_U_put M a1))]) [0, 1] rfl
    have hD9 := hD.sub (ws' := [(A 0, xc0 Z A (ap_U_put M a1)), (A 1, xc1 Z A (ap_U_put M a1))]) [0, 1] (by decide) rfl
    exact W.vret hx hb hr (fun t ht hW => ⟨⟨a1, rfl, (by rw [F_U_put, if_pos h1]), xE_at hP9 hK hD9 ht hW⟩, hS.F ht⟩) hS.2.2 d_U_put_30
  · refine lv_iload_n hx hb d_U_put_5 rfl (lv_at hl 1 rfl) ?_
    have hPc := hP.sub (ws' := []) [] rfl
    have hDc := hD.sub (ws' := []) [] (by decide) rfl
    refine xk_p (va_runS (As := [.int a1]) (rest := []) ⟨hx, hb, hml, hown, hts⟩ (c_Rotors_exists l dC dI Z A _ M a1) (va_cwS 1 hts (xw_S _ tw_452 tw_323 tw_2 tw_324) rfl rfl rfl (by decide +kernel) ⟨Nat.le_of_ble_eq_true rfl, Nat.le_of_ble_eq_true rfl⟩) ⟨xB_blind, fun U hU hW => ⟨rfl, xB_at hPc hK hDc hq U hU hW⟩⟩ rfl rfl hl.1 rfl (lv_room (Nat.le_of_ble_eq_true rfl)) d_U_put_6 ⟨Nat.le_of_ble_eq_true rfl, Nat.le_of_ble_eq_true rfl⟩) ?_
    refine lv_topi (fun z2 hz2 => ?_)
    refine lv_if_ne (tgt := 22) hx hb d_U_put_9 rfl (fun h3 => ?_) (fun h3 => ?_)
    · refine lv_aload_n hx hb d_U_put_22 rfl (lv_at hl 0 rfl) ?_
      refine va_get (D := (dC, dI)) (ci := 9) (v := .ref (A 1)) (C := "CentrifugeUnit") (T := xF9) (N := 7) hx hb htt xin9 hown hK hP 0 rfl rfl 0 (by decide) (htt _ tw_283) (fun _ h9 => h9) rfl d_U_put_23 ?_
      refine lv_iload_n hx hb d_U_put_26 rfl (lv_at hl 1 rfl) ?_
      refine va_put (D := (dC, dI)) (ci := 5) (v := .int a1) (ty := .int) (C := "CentrifugeUnit$Rotors") (T := xF5) (N := 5) hx hb htt xin5 xT5 xTo5 xNm5 hown hK hP hD hS 1 rfl rfl 4 (by decide) (htt _ tw_42) (fun _ h9 => h9) rfl (by decide +kernel) rfl rfl (Nat.le_of_ble_eq_true rfl) d_U_put_27 (fun H locs hP hD hS => ?_)
      have hP : va_P (dC, dI) xcl [(A 0, .inr (9, [.ref (A 1), .ref (A 6), .ref (A 10), .ref (A 11), .ref (A 12), .ref (A 13), .ref (A 17)])), (A 1, .inr (5, [.ref (A 2), .ref (A 3), .ref (A 4), .ref (A 5), .int a1]))] H := hP
      have hD : va_D AA [(A 0, .inr (9, [.ref (A 1), .ref (A 6), .ref (A 10), .ref (A 11), .ref (A 12), .ref (A 13), .ref (A 17)])), (A 1, .inr (5, [.ref (A 2), .ref (A 3), .ref (A 4), .ref (A 5), .int a1]))] := hD
      have hP9 := hP.sub (ws' := [(A 0, xc0 Z A (ap_U_put M a1)), (A 1, xc1 Z A (ap_U_put M a1))]) [0, 1] rfl
      have hD9 := hD.sub (ws' := [(A 0, xc0 Z A (ap_U_put M a1)), (A 1, xc1 Z A (ap_U_put M a1))]) [0, 1] (by decide) rfl
      exact W.vret hx hb hr (fun t ht hW => ⟨⟨a1, rfl, (by rw [F_U_put, if_neg h1, ← hz2, F_U_put_k1, if_neg h3]), xE_at hP9 hK hD9 ht hW⟩, hS.F ht⟩) hS.2.2 d_U_put_30
    · exact absurd hT (by rw [T_U_put, if_neg h1, ← hz2, T_U_put_k1, if_pos h3]; exact (by decide : ¬ (1 : Nat) = 0))
abbrev bc_U_bolt : ByteArray := prog_1_method_8_code
def y_U_bolt : MethodName := ⟨"CentrifugeUnit", "bolt", "(ZZ)V"⟩
theorem d_U_bolt_0 : decode bc_U_bolt 0 = .ok (.aload_n 0, 1) := by decide +kernel
theorem d_U_bolt_1 : decode bc_U_bolt 1 = .ok (.getfield 40, 3) := by decide +kernel
theorem d_U_bolt_4 : decode bc_U_bolt 4 = .ok (.iload_n 1, 1) := by decide +kernel
theorem d_U_bolt_5 : decode bc_U_bolt 5 = .ok (.putfield 143, 3) := by decide +kernel
theorem d_U_bolt_8 : decode bc_U_bolt 8 = .ok (.aload_n 0, 1) := by decide +kernel
theorem d_U_bolt_9 : decode bc_U_bolt 9 = .ok (.getfield 40, 3) := by decide +kernel
theorem d_U_bolt_12 : decode bc_U_bolt 12 = .ok (.iload_n 2, 1) := by decide +kernel
theorem d_U_bolt_13 : decode bc_U_bolt 13 = .ok (.putfield 147, 3) := by decide +kernel
theorem d_U_bolt_16 : decode bc_U_bolt 16 = .ok (.return_, 1) := by decide +kernel
abbrev ap_U_bolt (M : XM) (u : (Int32 × Int32)) : XM := ((va_up (va_up M.1 8 (u.1)) 9 (u.2)), M.2)
def F_U_bolt (M : XM) (a1 : Int32) (a2 : Int32) : (Int32 × Int32) := (a1, a2)
set_option maxHeartbeats 4000000 in
set_option maxRecDepth 100000 in
theorem c_U_bolt (l : Launch) (dC : Nat → ClassId) (dI : Nat → Nat → Nat) (Z : Nat → ClassId) (A : Nat → Nat) (sz : Nat) (M : XM) (a1 : Int32) (a2 : Int32) (hb1 : a1 = 0 ∨ a1 = 1) (hb2 : a2 = 0 ∨ a2 = 1) : Met l y_U_bolt (.code y_U_bolt bc_U_bolt 3 none :: xw) ({ frames := 0, cells := 0, slots := 0, locals := 0 }) (va_Pc [.ref (A 0), .int a1, .int a2] (xB (dC, dI) xcl (xty Z) sz [(A 0, xc0 Z A M), (A 12, xc12 Z A M)])) (va_Qv (fun u : (Int32 × Int32) => u = F_U_bolt M a1 a2) (fun u => xE (dC, dI) xcl (xty Z) (va_A [(A 0, xc0 Z A M), (A 12, xc12 Z A M)] sz) [(A 0, xc0 Z A (ap_U_bolt M u)), (A 12, xc12 Z A (ap_U_bolt M u))]) (va_A [(A 0, xc0 Z A M), (A 12, xc12 Z A M)] sz)) 0 0 (va_A [(A 0, xc0 Z A M), (A 12, xc12 Z A M)] sz) := by
  refine Met.ofW (cc := bc_U_bolt) (maxL := 3) (ret := none) (by decide) rfl ?_
  intro p e s m args below meth c s₁ B hml hv
  obtain ⟨rfl, hsz, hP, hK, hD0, hq⟩ := hv
  have hx := B.exec
  have hb := B.bytes
  have hr := B.returns
  have hts := atoms_spec (ws := (.code y_U_bolt bc_U_bolt 3 none :: xw)) B.pre
  have htt : ∀ w ∈ xw, w.before _ s = true := fun w h => hts w (List.mem_cons_of_mem _ h)
  have hown : s.vm.findClass "CentrifugeUnit" = some m.cls := findClass_of_methodNamed B.named
  have hlocks := B.notSynchronized
  subst hsz
  have hD := hD0.self (sz := s.heap.size)
  generalize hAe : va_A [(A 0, xc0 Z A M), (A 12, xc12 Z A M)] s.heap.size = AA at hD ⊢
  have hA : ∀ q : Nat, s.heap.size ≤ q → AA q := fun q h => by rw [← hAe]; exact Or.inr h
  have hS : va_S AA s.heap s.heap [] := va_S.rf
  have hP : va_P (dC, dI) xcl [(A 0, .inr (9, [.ref (A 1), .ref (A 6), .ref (A 10), .ref (A 11), .ref (A 12), .ref (A 13), .ref (A 17)])), (A 12, .inr (1, [.int (M.1 8), .int (M.1 9), .int (M.1 10)]))] s.heap := hP
  have hD : va_D AA [(A 0, .inr (9, [.ref (A 1), .ref (A 6), .ref (A 10), .ref (A 11), .ref (A 12), .ref (A 13), .ref (A 17)])), (A 12, .inr (1, [.int (M.1 8), .int (M.1 9), .int (M.1 10)]))] := hD
  have hl := lv_entry ([.ref (A 0), .int a1, .int a2]) (n := 3) (Nat.le_of_ble_eq_true rfl)
  rw [lg_entry_eq]
  generalize (lg_sl ([.ref (A 0), .int a1, .int a2]) ++ List.replicate (3 - (lg_sl ([.ref (A 0), .int a1, .int a2])).length) Slot.unset).toArray = ls at hl ⊢
  have hl : lv_has ls 3 [(0, .ref (A 0)), (1, .int a1), (2, .int a2)] := hl
  refine lv_aload_n hx hb d_U_bolt_0 rfl (lv_at hl 0 rfl) ?_
  refine va_get (D := (dC, dI)) (ci := 9) (v := .ref (A 12)) (C := "CentrifugeUnit") (T := xF9) (N := 7) hx hb htt xin9 hown hK hP 0 rfl rfl 4 (by decide) (htt _ tw_287) (fun _ h9 => h9) rfl d_U_bolt_1 ?_
  refine lv_iload_n hx hb d_U_bolt_4 rfl (lv_at hl 1 rfl) ?_
  refine va_put (D := (dC, dI)) (ci := 1) (v := .int a1) (ty := .boolean) (C := "CentrifugeUnit$Lid") (T := xF1) (N := 3) hx hb htt xin1 xT1 xTo1 xNm1 hown hK hP hD hS 1 rfl rfl 0 (by decide) (htt _ tw_130) (fun _ h9 => h9) rfl (by decide +kernel) (xz_nar hb1) (xz_fit hb1) (Nat.le_of_ble_eq_true rfl) d_U_bolt_5 (fun H locs hP hD hS => ?_)
  have hP : va_P (dC, dI) xcl [(A 0, .inr (9, [.ref (A 1), .ref (A 6), .ref (A 10), .ref (A 11), .ref (A 12), .ref (A 13), .ref (A 17)])), (A 12, .inr (1, [.int a1, .int (M.1 9), .int (M.1 10)]))] H := hP
  have hD : va_D AA [(A 0, .inr (9, [.ref (A 1), .ref (A 6), .ref (A 10), .ref (A 11), .ref (A 12), .ref (A 13), .ref (A 17)])), (A 12, .inr (1, [.int a1, .int (M.1 9), .int (M.1 10)]))] := hD
  refine lv_aload_n hx hb d_U_bolt_8 rfl (lv_at hl 0 rfl) ?_
  refine va_get (D := (dC, dI)) (ci := 9) (v := .ref (A 12)) (C := "CentrifugeUnit") (T := xF9) (N := 7) hx hb htt xin9 hown hK hP 0 rfl rfl 4 (by decide) (htt _ tw_287) (fun _ h9 => h9) rfl d_U_bolt_9 ?_
  refine lv_iload_n hx hb d_U_bolt_12 rfl (lv_at hl 2 rfl) ?_
  refine va_put (D := (dC, dI)) (ci := 1) (v := .int a2) (ty := .boolean) (C := "CentrifugeUnit$Lid") (T := xF1) (N := 3) hx hb htt xin1 xT1 xTo1 xNm1 hown hK hP hD hS 1 rfl rfl 1 (by decide) (htt _ tw_132) (fun _ h9 => h9) rfl (by decide +kernel) (xz_nar hb2) (xz_fit hb2) (Nat.le_of_ble_eq_true rfl) d_U_bolt_13 (fun H locs hP hD hS => ?_)
  have hP : va_P (dC, dI) xcl [(A 0, .inr (9, [.ref (A 1), .ref (A 6), .ref (A 10), .ref (A 11), .ref (A 12), .ref (A 13), .ref (A 17)])), (A 12, .inr (1, [.int a1, .int a2, .int (M.1 10)]))] H := hP
  have hD : va_D AA [(A 0, .inr (9, [.ref (A 1), .ref (A 6), .ref (A 10), .ref (A 11), .ref (A 12), .ref (A 13), .ref (A 17)])), (A 12, .inr (1, [.int a1, .int a2, .int (M.1 10)]))] := hD
  have hP9 := hP.sub (ws' := [(A 0, xc0 Z A (ap_U_bolt M (a1, a2))), (A 12, xc12 Z A (ap_U_bolt M (a1, a2)))]) [0, 1] rfl
  have hD9 := hD.sub (ws' := [(A 0, xc0 Z A (ap_U_bolt M (a1, a2))), (A 12, xc12 Z A (ap_U_bolt M (a1, a2)))]) [0, 1] (by decide) rfl
  exact W.vret hx hb hr (fun t ht hW => ⟨⟨(a1, a2), rfl, (by rw [F_U_bolt]), xE_at hP9 hK hD9 ht hW⟩, hS.F ht⟩) hS.2.2 d_U_bolt_16
abbrev bc_U_shake : ByteArray := prog_1_method_9_code
def y_U_shake : MethodName := ⟨"CentrifugeUnit", "shake", "(I)V"⟩
theorem d_U_shake_0 : decode bc_U_shake 0 = .ok (.iload_n 1, 1) := by decide +kernel
theorem d_U_shake_1 : decode bc_U_shake 1 = .ok (.iconst 0, 1) := by decide +kernel
theorem d_U_shake_2 : decode bc_U_shake 2 = .ok (.ldc 150, 2) := by decide +kernel
theorem d_U_shake_4 : decode bc_U_shake 4 = .ok (.invokestatic 151, 3) := by decide +kernel
theorem d_U_shake_7 : decode bc_U_shake 7 = .ok (.ifCond .ne 13, 3) := by decide +kernel
theorem d_U_shake_10 : decode bc_U_shake 10 = .ok (.new 68, 3) := by decide +kernel
theorem d_U_shake_13 : decode bc_U_shake 13 = .ok (.dup, 1) := by decide +kernel
theorem d_U_shake_14 : decode bc_U_shake 14 = .ok (.ldc 154, 2) := by decide +kernel
theorem d_U_shake_16 : decode bc_U_shake 16 = .ok (.invokespecial 72, 3) := by decide +kernel
theorem d_U_shake_19 : decode bc_U_shake 19 = .ok (.athrow, 1) := by decide +kernel
def T_U_shake_k1 (M : XM) (a1 : Int32) (z1 : Int32) : Nat := (if z1 = 0 then 1 else 0)
def T_U_shake (M : XM) (a1 : Int32) : Nat := (T_U_shake_k1 M a1 (F_U_within M a1 0 100000))
set_option maxHeartbeats 4000000 in
set_option maxRecDepth 100000 in
theorem t1_U_shake (l : Launch) (dC : Nat → ClassId) (dI : Nat → Nat → Nat) (Z : Nat → ClassId) (A : Nat → Nat) (sz : Nat) (M : XM) (a1 : Int32) (htl : l.stackTraces = false) (hT : T_U_shake M a1 = 1) : MetT l y_U_shake (.code y_U_shake bc_U_shake 2 none :: xw) ({ frames := 6, cells := 1, slots := 6, locals := 90 }) (va_Pc [.ref (A 0), .int a1] (xBs (dC, dI) xcl (xty Z) sz [(A 0, xc0 Z A M), (A 17, xc17 Z A M), (A 18, xc18 Z A M)])) xIAE 1 6 := by
  refine MetT.ofW (cc := bc_U_shake) (maxL := 2) (ret := none) (by decide) rfl ?_
  intro p e s m args below meth c s₁ B hml hv
  obtain ⟨rfl, ⟨hsz, hP, hK, hD0, hq⟩, hs⟩ := hv
  have hx := B.exec
  have hb := B.bytes
  have hts := atoms_spec (ws := (.code y_U_shake bc_U_shake 2 none :: xw)) B.pre
  have htt : ∀ w ∈ xw, w.before _ s = true := fun w h => hts w (List.mem_cons_of_mem _ h)
  have hown : s.vm.findClass "CentrifugeUnit" = some m.cls := findClass_of_methodNamed B.named
  have hlocks := B.notSynchronized
  subst hsz
  have hD : va_D (fun _ => True) [(A 0, .inr (9, [.ref (A 1), .ref (A 6), .ref (A 10), .ref (A 11), .ref (A 12), .ref (A 13), .ref (A 17)])), (A 17, .inr (0, [.ref (A 1), .ref (A 6), .ref (A 11), .ref (A 12), .ref (A 13), .ref (A 18), .ref (A 19), .int (M.1 12), .int (M.1 13), .int (M.1 14), .int (M.1 15), .int (M.1 16), .int (M.1 17), .int (M.1 18)])), (A 18, .inr (8, [.int (M.1 19), .int (M.1 20), .int (M.1 21), .int (M.1 22)]))] := hD0
  have hP : va_P (dC, dI) xcl [(A 0, .inr (9, [.ref (A 1), .ref (A 6), .ref (A 10), .ref (A 11), .ref (A 12), .ref (A 13), .ref (A 17)])), (A 17, .inr (0, [.ref (A 1), .ref (A 6), .ref (A 11), .ref (A 12), .ref (A 13), .ref (A 18), .ref (A 19), .int (M.1 12), .int (M.1 13), .int (M.1 14), .int (M.1 15), .int (M.1 16), .int (M.1 17), .int (M.1 18)])), (A 18, .inr (8, [.int (M.1 19), .int (M.1 20), .int (M.1 21), .int (M.1 22)]))] s.heap := hP
  have hl := lv_entry ([.ref (A 0), .int a1]) (n := 2) (Nat.le_of_ble_eq_true rfl)
  rw [lg_entry_eq]
  generalize (lg_sl ([.ref (A 0), .int a1]) ++ List.replicate (2 - (lg_sl ([.ref (A 0), .int a1])).length) Slot.unset).toArray = ls at hl ⊢
  have hl : lv_has ls 2 [(0, .ref (A 0)), (1, .int a1)] := hl
  refine lv_iload_n hx hb d_U_shake_0 rfl (lv_at hl 1 rfl) ?_
  refine lv_iconst (v := 0) hx hb d_U_shake_1 (by decide) ?_
  refine lv_ldc (v := 100000) hx hb hown (htt _ tw_533) d_U_shake_2 ?_
  have hPc := hP.sub (ws' := []) [] rfl
  have hDc := hD.sub (ws' := []) [] (by decide) rfl
  refine xk_p (va_runS (As := [.int a1, .int 0, .int 100000]) (rest := []) ⟨hx, hb, hml, hown, hts⟩ (c_U_within l dC dI Z A _ M a1 0 100000) (va_cwS 3 hts (xw_S _ tw_534 tw_326 tw_1 tw_327) rfl rfl rfl (by decide +kernel) ⟨Nat.le_of_ble_eq_true rfl, Nat.le_of_ble_eq_true rfl⟩) ⟨xB_blind, fun U hU hW => ⟨rfl, xB_at hPc hK hDc hq U hU hW⟩⟩ rfl rfl hl.1 rfl (lv_room (Nat.le_of_ble_eq_true rfl)) d_U_shake_4 ⟨Nat.le_of_ble_eq_true rfl, Nat.le_of_ble_eq_true rfl⟩) ?_
  refine lv_topi (fun z1 hz1 => ?_)
  refine lv_if_ne (tgt := 20) hx hb d_U_shake_7 rfl (fun h2 => ?_) (fun h2 => ?_)
  · exact absurd hT (by rw [T_U_shake, ← hz1, T_U_shake_k1, if_neg h2]; exact (by decide : ¬ (0 : Nat) = 1))
  · obtain ⟨q9, hZ⟩ := hq.2.1 ("CentrifugeUnit", 154, "no such level") (by decide +kernel)
    exact xt_throw (names := ["java/lang/RuntimeException", "java/lang/Exception"]) hx hb htl hown (htt _ tw_353) (htt _ tw_354) (htt _ tw_16) hZ (xo_all htt hq hs xo_1_72) (by decide) (by decide) d_U_shake_10 d_U_shake_13 d_U_shake_14 d_U_shake_16 d_U_shake_19 (B.noHandlers (hts _ List.mem_cons_self)) (hl.1.trans hml.symm) hlocks (by decide) (by decide) (by decide) (by decide)
theorem d_U_shake_20 : decode bc_U_shake 20 = .ok (.aload_n 0, 1) := by decide +kernel
theorem d_U_shake_21 : decode bc_U_shake 21 = .ok (.getfield 56, 3) := by decide +kernel
theorem d_U_shake_24 : decode bc_U_shake 24 = .ok (.getfield 129, 3) := by decide +kernel
theorem d_U_shake_27 : decode bc_U_shake 27 = .ok (.iload_n 1, 1) := by decide +kernel
theorem d_U_shake_28 : decode bc_U_shake 28 = .ok (.putfield 156, 3) := by decide +kernel
theorem d_U_shake_31 : decode bc_U_shake 31 = .ok (.return_, 1) := by decide +kernel
abbrev ap_U_shake (M : XM) (u : Int32) : XM := ((va_up M.1 19 u), M.2)
def F_U_shake_k1 (M : XM) (a1 : Int32) (z1 : Int32) : (Int32) := (if z1 = 0 then (M.1 19) else a1)
def F_U_shake (M : XM) (a1 : Int32) : (Int32) := (F_U_shake_k1 M a1 (F_U_within M a1 0 100000))
set_option maxHeartbeats 4000000 in
set_option maxRecDepth 100000 in
theorem c_U_shake (l : Launch) (dC : Nat → ClassId) (dI : Nat → Nat → Nat) (Z : Nat → ClassId) (A : Nat → Nat) (sz : Nat) (M : XM) (a1 : Int32) (hT : T_U_shake M a1 = 0) : Met l y_U_shake (.code y_U_shake bc_U_shake 2 none :: xw) ({ frames := 1, cells := 0, slots := 0, locals := 22 }) (va_Pc [.ref (A 0), .int a1] (xB (dC, dI) xcl (xty Z) sz [(A 0, xc0 Z A M), (A 17, xc17 Z A M), (A 18, xc18 Z A M)])) (va_Qv (fun u : Int32 => u = F_U_shake M a1) (fun u => xE (dC, dI) xcl (xty Z) (va_A [(A 0, xc0 Z A M), (A 17, xc17 Z A M), (A 18, xc18 Z A M)] sz) [(A 0, xc0 Z A (ap_U_shake M u)), (A 17, xc17 Z A (ap_U_shake M u)), (A 18, xc18 Z A (ap_U_shake M u))]) (va_A [(A 0, xc0 Z A M), (A 17, xc17 Z A M), (A 18, xc18 Z A M)] sz)) 0 0 (va_A [(A 0, xc0 Z A M), (A 17, xc17 Z A M), (A 18, xc18 Z A M)] sz) := by
  refine Met.ofW (cc := bc_U_shake) (maxL := 2) (ret := none) (by decide) rfl ?_
  intro p e s m args below meth c s₁ B hml hv
  obtain ⟨rfl, hsz, hP, hK, hD0, hq⟩ := hv
  have hx := B.exec
  have hb := B.bytes
  have hr := B.returns
  have hts := atoms_spec (ws := (.code y_U_shake bc_U_shake 2 none :: xw)) B.pre
  have htt : ∀ w ∈ xw, w.before _ s = true := fun w h => hts w (List.mem_cons_of_mem _ h)
  have hown : s.vm.findClass "CentrifugeUnit" = some m.cls := findClass_of_methodNamed B.named
  have hlocks := B.notSynchronized
  subst hsz
  have hD := hD0.self (sz := s.heap.size)
  generalize hAe : va_A [(A 0, xc0 Z A M), (A 17, xc17 Z A M), (A 18, xc18 Z A M)] s.heap.size = AA at hD ⊢
  have hA : ∀ q : Nat, s.heap.size ≤ q → AA q := fun q h => by rw [← hAe]; exact Or.inr h
  have hS : va_S AA s.heap s.heap [] := va_S.rf
  have hP : va_P (dC, dI) xcl [(A 0, .inr (9, [.ref (A 1), .ref (A 6), .ref (A 10), .ref (A 11), .ref (A 12), .ref (A 13), .ref (A 17)])), (A 17, .inr (0, [.ref (A 1), .ref (A 6), .ref (A 11), .ref (A 12), .ref (A 13), .ref (A 18), .ref (A 19), .int (M.1 12), .int (M.1 13), .int (M.1 14), .int (M.1 15), .int (M.1 16), .int (M.1 17), .int (M.1 18)])), (A 18, .inr (8, [.int (M.1 19), .int (M.1 20), .int (M.1 21), .int (M.1 22)]))] s.heap := hP
  have hD : va_D AA [(A 0, .inr (9, [.ref (A 1), .ref (A 6), .ref (A 10), .ref (A 11), .ref (A 12), .ref (A 13), .ref (A 17)])), (A 17, .inr (0, [.ref (A 1), .ref (A 6), .ref (A 11), .ref (A 12), .ref (A 13), .ref (A 18), .ref (A 19), .int (M.1 12), .int (M.1 13), .int (M.1 14), .int (M.1 15), .int (M.1 16), .int (M.1 17), .int (M.1 18)])), (A 18, .inr (8, [.int (M.1 19), .int (M.1 20), .int (M.1 21), .int (M.1 22)]))] := hD
  have hl := lv_entry ([.ref (A 0), .int a1]) (n := 2) (Nat.le_of_ble_eq_true rfl)
  rw [lg_entry_eq]
  generalize (lg_sl ([.ref (A 0), .int a1]) ++ List.replicate (2 - (lg_sl ([.ref (A 0), .int a1])).length) Slot.unset).toArray = ls at hl ⊢
  have hl : lv_has ls 2 [(0, .ref (A 0)), (1, .int a1)] := hl
  refine lv_iload_n hx hb d_U_shake_0 rfl (lv_at hl 1 rfl) ?_
  refine lv_iconst (v := 0) hx hb d_U_shake_1 (by decide) ?_
  refine lv_ldc (v := 100000) hx hb hown (htt _ tw_533) d_U_shake_2 ?_
  have hPc := hP.sub (ws' := []) [] rfl
  have hDc := hD.sub (ws' := []) [] (by decide) rfl
  refine xk_p (va_runS (As := [.int a1, .int 0, .int 100000]) (rest := []) ⟨hx, hb, hml, hown, hts⟩ (c_U_within l dC dI Z A _ M a1 0 100000) (va_cwS 3 hts (xw_S _ tw_534 tw_326 tw_1 tw_327) rfl rfl rfl (by decide +kernel) ⟨Nat.le_of_ble_eq_true rfl, Nat.le_of_ble_eq_true rfl⟩) ⟨xB_blind, fun U hU hW => ⟨rfl, xB_at hPc hK hDc hq U hU hW⟩⟩ rfl rfl hl.1 rfl (lv_room (Nat.le_of_ble_eq_true rfl)) d_U_shake_4 ⟨Nat.le_of_ble_eq_true rfl, Nat.le_of_ble_eq_true rfl⟩) ?_
  refine lv_topi (fun z1 hz1 => ?_)
  refine lv_if_ne (tgt := 20) hx hb d_U_shake_7 rfl (fun h2 => ?_) (fun h2 => ?_)
  · refine lv_aload_n hx hb d_U_shake_20 rfl (lv_at hl 0 rfl) ?_
    refine va_get (D := (dC, dI)) (ci := 9) (v := .ref (A 17)) (C := "CentrifugeUnit") (T := xF9) (N := 7) hx hb htt xin9 hown hK hP 0 rfl rfl 6 (by decide) (htt _ tw_289) (fun _ h9 => h9) rfl d_U_shake_21 ?_
    refine va_get (D := (dC, dI)) (ci := 0) (v := .ref (A 18)) (C := "CentrifugeUnit$Control") (T := xF0) (N := 14) hx hb htt xin0 hown hK hP 1 rfl rfl 5 (by decide) (htt _ tw_237) (fun _ h9 => h9) rfl d_U_shake_24 ?_
    refine lv_iload_n hx hb d_U_shake_27 rfl (lv_at hl 1 rfl) ?_
    refine va_put (D := (dC, dI)) (ci := 8) (v := .int a1) (ty := .int) (C := "CentrifugeUnit$Watch") (T := xF8) (N := 4) hx hb htt xin8 xT8 xTo8 xNm8 hown hK hP hD hS 2 rfl rfl 0 (by decide) (htt _ tw_175) (fun _ h9 => h9) rfl (by decide +kernel) rfl rfl (Nat.le_of_ble_eq_true rfl) d_U_shake_28 (fun H locs hP hD hS => ?_)
    have hP : va_P (dC, dI) xcl [(A 0, .inr (9, [.ref (A 1), .ref (A 6), .ref (A 10), .ref (A 11), .ref (A 12), .ref (A 13), .ref (A 17)])), (A 17, .inr (0, [.ref (A 1), .ref (A 6), .ref (A 11), .ref (A 12), .ref (A 13), .ref (A 18), .ref (A 19), .int (M.1 12), .int (M.1 13), .int (M.1 14), .int (M.1 15), .int (M.1 16), .int (M.1 17), .int (M.1 18)])), (A 18, .inr (8, [.int a1, .int (M.1 20), .int (M.1 21), .int (M.1 22)]))] H := hP
    have hD : va_D AA [(A 0, .inr (9, [.ref (A 1), .ref (A 6), .ref (A 10), .ref (A 11), .ref (A 12), .ref (A 13), .ref (A 17)])), (A 17, .inr (0, [.ref (A 1), .ref (A 6), .ref (A 11), .ref (A 12), .ref (A 13), .ref (A 18), .ref (A 19), .int (M.1 12), .int (M.1 13), .int (M.1 14), .int (M.1 15), .int (M.1 16), .int (M.1 17), .int (M.1 18)])), (A 18, .inr (8, [.int a1, .int (M.1 20), .int (M.1 21), .int (M.1 22)]))] := hD
    have hP9 := hP.sub (ws' := [(A 0, xc0 Z A (ap_U_shake M a1)), (A 17, xc17 Z A (ap_U_shake M a1)), (A 18, xc18 Z A (ap_U_shake M a1))]) [0, 1, 2] rfl
    have hD9 := hD.sub (ws' := [(A 0, xc0 Z A (ap_U_shake M a1)), (A 17, xc17 Z A (ap_U_shake M a1)), (A 18, xc18 Z A (ap_U_shake M a1))]) [0, 1, 2] (by decide) rfl
    exact W.vret hx hb hr (fun t ht hW => ⟨⟨a1, rfl, (by rw [F_U_shake, ← hz1, F_U_shake_k1, if_neg h2]), xE_at hP9 hK hD9 ht hW⟩, hS.F ht⟩) hS.2.2 d_U_shake_31
  · exact absurd hT (by rw [T_U_shake, ← hz1, T_U_shake_k1, if_pos h2]; exact (by decide : ¬ (1 : Nat) = 0))
abbrev bc_U_chamber : ByteArray := prog_1_method_10_code
def y_U_chamber : MethodName := ⟨"CentrifugeUnit", "chamber", "(I)V"⟩
theorem d_U_chamber_0 : decode bc_U_chamber 0 = .ok (.iload_n 1, 1) := by decide +kernel
theorem d_U_chamber_1 : decode bc_U_chamber 1 = .ok (.sipush (-10000), 3) := by decide +kernel
theorem d_U_chamber_4 : decode bc_U_chamber 4 = .ok (.sipush 10000, 3) := by decide +kernel
theorem d_U_chamber_7 : decode bc_U_chamber 7 = .ok (.invokestatic 151, 3) := by decide +kernel
theorem d_U_chamber_10 : decode bc_U_chamber 10 = .ok (.ifCond .ne 13, 3) := by decide +kernel
theorem d_U_chamber_13 : decode bc_U_chamber 13 = .ok (.new 68, 3) := by decide +kernel
theorem d_U_chamber_16 : decode bc_U_chamber 16 = .ok (.dup, 1) := by decide +kernel
theorem d_U_chamber_17 : decode bc_U_chamber 17 = .ok (.ldc 159, 2) := by decide +kernel
theorem d_U_chamber_19 : decode bc_U_chamber 19 = .ok (.invokespecial 72, 3) := by decide +kernel
theorem d_U_chamber_22 : decode bc_U_chamber 22 = .ok (.athrow, 1) := by decide +kernel
def T_U_chamber_k1 (M : XM) (a1 : Int32) (z1 : Int32) : Nat := (if z1 = 0 then 1 else 0)
def T_U_chamber (M : XM) (a1 : Int32) : Nat := (T_U_chamber_k1 M a1 (F_U_within M a1 (-10000) 10000))
set_option maxHeartbeats 4000000 in
set_option maxRecDepth 100000 in
theorem t1_U_chamber (l : Launch) (dC : Nat → ClassId) (dI : Nat → Nat → Nat) (Z : Nat → ClassId) (A : Nat → Nat) (sz : Nat) (M : XM) (a1 : Int32) (htl : l.stackTraces = false) (hT : T_U_chamber M a1 = 1) : MetT l y_U_chamber (.code y_U_chamber bc_U_chamber 2 none :: xw) ({ frames := 6, cells := 1, slots := 6, locals := 90 }) (va_Pc [.ref (A 0), .int a1] (xBs (dC, dI) xcl (xty Z) sz [(A 0, xc0 Z A M), (A 17, xc17 Z A M)])) xIAE 1 6 := by
  refine MetT.ofW (cc := bc_U_chamber) (maxL := 2) (ret := none) (by decide) rfl ?_
  intro p e s m args below meth c s₁ B hml hv
  obtain ⟨rfl, ⟨hsz, hP, hK, hD0, hq⟩, hs⟩ := hv
  have hx := B.exec
  have hb := B.bytes
  have hts := atoms_spec (ws := (.code y_U_chamber bc_U_chamber 2 none :: xw)) B.pre
  have htt : ∀ w ∈ xw, w.before _ s = true := fun w h => hts w (List.mem_cons_of_mem _ h)
  have hown : s.vm.findClass "CentrifugeUnit" = some m.cls := findClass_of_methodNamed B.named
  have hlocks := B.notSynchronized
  subst hsz
  have hD : va_D (fun _ => True) [(A 0, .inr (9, [.ref (A 1), .ref (A 6), .ref (A 10), .ref (A 11), .ref (A 12), .ref (A 13), .ref (A 17)])), (A 17, .inr (0, [.ref (A 1), .ref (A 6), .ref (A 11), .ref (A 12), .ref (A 13), .ref (A 18), .ref (A 19), .int (M.1 12), .int (M.1 13), .int (M.1 14), .int (M.1 15), .int (M.1 16), .int (M.1 17), .int (M.1 18)]))] := hD0
  have hP : va_P (dC, dI) xcl [(A 0, .inr (9, [.ref (A 1), .ref (A 6), .ref (A 10), .ref (A 11), .ref (A 12), .ref (A 13), .ref (A 17)])), (A 17, .inr (0, [.ref (A 1), .ref (A 6), .ref (A 11), .ref (A 12), .ref (A 13), .ref (A 18), .ref (A 19), .int (M.1 12), .int (M.1 13), .int (M.1 14), .int (M.1 15), .int (M.1 16), .int (M.1 17), .int (M.1 18)]))] s.heap := hP
  have hl := lv_entry ([.ref (A 0), .int a1]) (n := 2) (Nat.le_of_ble_eq_true rfl)
  rw [lg_entry_eq]
  generalize (lg_sl ([.ref (A 0), .int a1]) ++ List.replicate (2 - (lg_sl ([.ref (A 0), .int a1])).length) Slot.unset).toArray = ls at hl ⊢
  have hl : lv_has ls 2 [(0, .ref (A 0)), (1, .int a1)] := hl
  refine lv_iload_n hx hb d_U_chamber_0 rfl (lv_at hl 1 rfl) ?_
  refine lv_sipush (v := (-10000)) hx hb d_U_chamber_1 (by decide) ?_
  refine lv_sipush (v := 10000) hx hb d_U_chamber_4 (by decide) ?_
  have hPc := hP.sub (ws' := []) [] rfl
  have hDc := hD.sub (ws' := []) [] (by decide) rfl
  refine xk_p (va_runS (As := [.int a1, .int (-10000), .int 10000]) (rest := []) ⟨hx, hb, hml, hown, hts⟩ (c_U_within l dC dI Z A _ M a1 (-10000) 10000) (va_cwS 3 hts (xw_S _ tw_534 tw_326 tw_1 tw_327) rfl rfl rfl (by decide +kernel) ⟨Nat.le_of_ble_eq_true rfl, Nat.le_of_ble_eq_true rfl⟩) ⟨xB_blind, fun U hU hW => ⟨rfl, xB_at hPc hK hDc hq U hU hW⟩⟩ rfl rfl hl.1 rfl (lv_room (Nat.le_of_ble_eq_true rfl)) d_U_chamber_7 ⟨Nat.le_of_ble_eq_true rfl, Nat.le_of_ble_eq_true rfl⟩) ?_
  refine lv_topi (fun z1 hz1 => ?_)
  refine lv_if_ne (tgt := 23) hx hb d_U_chamber_10 rfl (fun h2 => ?_) (fun h2 => ?_)
  · exact absurd hT (by rw [T_U_chamber, ← hz1, T_U_chamber_k1, if_neg h2]; exact (by decide : ¬ (0 : Nat) = 1))
  · obtain ⟨q9, hZ⟩ := hq.2.1 ("CentrifugeUnit", 159, "no such temperature") (by decide +kernel)
    exact xt_throw (names := ["java/lang/RuntimeException", "java/lang/Exception"]) hx hb htl hown (htt _ tw_353) (htt _ tw_354) (htt _ tw_16) hZ (xo_all htt hq hs xo_1_72) (by decide) (by decide) d_U_chamber_13 d_U_chamber_16 d_U_chamber_17 d_U_chamber_19 d_U_chamber_22 (B.noHandlers (hts _ List.mem_cons_self)) (hl.1.trans hml.symm) hlocks (by decide) (by decide) (by decide) (by decide)
theorem d_U_chamber_23 : decode bc_U_chamber 23 = .ok (.aload_n 0, 1) := by decide +kernel
theorem d_U_chamber_24 : decode bc_U_chamber 24 = .ok (.getfield 56, 3) := by decide +kernel
theorem d_U_chamber_27 : decode bc_U_chamber 27 = .ok (.iload_n 1, 1) := by decide +kernel
theorem d_U_chamber_28 : decode bc_U_chamber 28 = .ok (.putfield 161, 3) := by decide +kernel
theorem d_U_chamber_31 : decode bc_U_chamber 31 = .ok (.return_, 1) := by decide +kernel
abbrev ap_U_chamber (M : XM) (u : Int32) : XM := ((va_up M.1 13 u), M.2)
def F_U_chamber_k1 (M : XM) (a1 : Int32) (z1 : Int32) : (Int32) := (if z1 = 0 then (M.1 13) else a1)
def F_U_chamber (M : XM) (a1 : Int32) : (Int32) := (F_U_chamber_k1 M a1 (F_U_within M a1 (-10000) 10000))
set_option maxHeartbeats 4000000 in
set_option maxRecDepth 100000 in
theorem c_U_chamber (l : Launch) (dC : Nat → ClassId) (dI : Nat → Nat → Nat) (Z : Nat → ClassId) (A : Nat → Nat) (sz : Nat) (M : XM) (a1 : Int32) (hT : T_U_chamber M a1 = 0) : Met l y_U_chamber (.code y_U_chamber bc_U_chamber 2 none :: xw) ({ frames := 1, cells := 0, slots := 0, locals := 22 }) (va_Pc [.ref (A 0), .int a1] (xB (dC, dI) xcl (xty Z) sz [(A 0, xc0 Z A M), (A 17, xc17 Z A M)])) (va_Qv (fun u : Int32 => u = F_U_chamber M a1) (fun u => xE (dC, dI) xcl (xty Z) (va_A [(A 0, xc0 Z A M), (A 17, xc17 Z A M)] sz) [(A 0, xc0 Z A (ap_U_chamber M u)), (A 17, xc17 Z A (ap_U_chamber M u))]) (va_A [(A 0, xc0 Z A M), (A 17, xc17 Z A M)] sz)) 0 0 (va_A [(A 0, xc0 Z A M), (A 17, xc17 Z A M)] sz) := by
  refine Met.ofW (cc := bc_U_chamber) (maxL := 2) (ret := none) (by decide) rfl ?_
  intro p e s m args below meth c s₁ B hml hv
  obtain ⟨rfl, hsz, hP, hK, hD0, hq⟩ := hv
  have hx := B.exec
  have hb := B.bytes
  have hr := B.returns
  have hts := atoms_spec (ws := (.code y_U_chamber bc_U_chamber 2 none :: xw)) B.pre
  have htt : ∀ w ∈ xw, w.before _ s = true := fun w h => hts w (List.mem_cons_of_mem _ h)
  have hown : s.vm.findClass "CentrifugeUnit" = some m.cls := findClass_of_methodNamed B.named
  have hlocks := B.notSynchronized
  subst hsz
  have hD := hD0.self (sz := s.heap.size)
  generalize hAe : va_A [(A 0, xc0 Z A M), (A 17, xc17 Z A M)] s.heap.size = AA at hD ⊢
  have hA : ∀ q : Nat, s.heap.size ≤ q → AA q := fun q h => by rw [← hAe]; exact Or.inr h
  have hS : va_S AA s.heap s.heap [] := va_S.rf
  have hP : va_P (dC, dI) xcl [(A 0, .inr (9, [.ref (A 1), .ref (A 6), .ref (A 10), .ref (A 11), .ref (A 12), .ref (A 13), .ref (A 17)])), (A 17, .inr (0, [.ref (A 1), .ref (A 6), .ref (A 11), .ref (A 12), .ref (A 13), .ref (A 18), .ref (A 19), .int (M.1 12), .int (M.1 13), .int (M.1 14), .int (M.1 15), .int (M.1 16), .int (M.1 17), .int (M.1 18)]))] s.heap := hP
  have hD : va_D AA [(A 0, .inr (9, [.ref (A 1), .ref (A 6), .ref (A 10), .ref (A 11), .ref (A 12), .ref (A 13), .ref (A 17)])), (A 17, .inr (0, [.ref (A 1), .ref (A 6), .ref (A 11), .ref (A 12), .ref (A 13), .ref (A 18), .ref (A 19), .int (M.1 12), .int (M.1 13), .int (M.1 14), .int (M.1 15), .int (M.1 16), .int (M.1 17), .int (M.1 18)]))] := hD
  have hl := lv_entry ([.ref (A 0), .int a1]) (n := 2) (Nat.le_of_ble_eq_true rfl)
  rw [lg_entry_eq]
  generalize (lg_sl ([.ref (A 0), .int a1]) ++ List.replicate (2 - (lg_sl ([.ref (A 0), .int a1])).length) Slot.unset).toArray = ls at hl ⊢
  have hl : lv_has ls 2 [(0, .ref (A 0)), (1, .int a1)] := hl
  refine lv_iload_n hx hb d_U_chamber_0 rfl (lv_at hl 1 rfl) ?_
  refine lv_sipush (v := (-10000)) hx hb d_U_chamber_1 (by decide) ?_
  refine lv_sipush (v := 10000) hx hb d_U_chamber_4 (by decide) ?_
  have hPc := hP.sub (ws' := []) [] rfl
  have hDc := hD.sub (ws' := []) [] (by decide) rfl
  refine xk_p (va_runS (As := [.int a1, .int (-10000), .int 10000]) (rest := []) ⟨hx, hb, hml, hown, hts⟩ (c_U_within l dC dI Z A _ M a1 (-10000) 10000) (va_cwS 3 hts (xw_S _ tw_534 tw_326 tw_1 tw_327) rfl rfl rfl (by decide +kernel) ⟨Nat.le_of_ble_eq_true rfl, Nat.le_of_ble_eq_true rfl⟩) ⟨xB_blind, fun U hU hW => ⟨rfl, xB_at hPc hK hDc hq U hU hW⟩⟩ rfl rfl hl.1 rfl (lv_room (Nat.le_of_ble_eq_true rfl)) d_U_chamber_7 ⟨Nat.le_of_ble_eq_true rfl, Nat.le_of_ble_eq_true rfl⟩) ?_
  refine lv_topi (fun z1 hz1 => ?_)
  refine lv_if_ne (tgt := 23) hx hb d_U_chamber_10 rfl (fun h2 => ?_) (fun h2 => ?_)
  · refine lv_aload_n hx hb d_U_chamber_23 rfl (lv_at hl 0 rfl) ?_
    refine va_get (D := (dC, dI)) (ci := 9) (v := .ref (A 17)) (C := "CentrifugeUnit") (T := xF9) (N := 7) hx hb htt xin9 hown hK hP 0 rfl rfl 6 (by decide) (htt _ tw_289) (fun _ h9 => h9) rfl d_U_chamber_24 ?_
    refine lv_iload_n hx hb d_U_chamber_27 rfl (lv_at hl 1 rfl) ?_
    refine va_put (D := (dC, dI)) (ci := 0) (v := .int a1) (ty := .int) (C := "CentrifugeUnit$Control") (T := xF0) (N := 14) hx hb htt xin0 xT0 xTo0 xNm0 hown hK hP hD hS 1 rfl rfl 8 (by decide) (htt _ tw_243) (fun _ h9 => h9) rfl (by decide +kernel) rfl rfl (Nat.le_of_ble_eq_true rfl) d_U_chamber_28 (fun H locs hP hD hS => ?_)
    have hP : va_P (dC, dI) xcl [(A 0, .inr (9, [.ref (A 1), .ref (A 6), .ref (A 10), .ref (A 11), .ref (A 12), .ref (A 13), .ref (A 17)])), (A 17, .inr (0, [.ref (A 1), .ref (A 6), .ref (A 11), .ref (A 12), .ref (A 13), .ref (A 18), .ref (A 19), .int (M.1 12), .int a1, .int (M.1 14), .int (M.1 15), .int (M.1 16), .int (M.1 17), .int (M.1 18)]))] H := hP
    have hD : va_D AA [(A 0, .inr (9, [.ref (A 1), .ref (A 6), .ref (A 10), .ref (A 11), .ref (A 12), .ref (A 13), .ref (A 17)])), (A 17, .inr (0, [.ref (A 1), .ref (A 6), .ref (A 11), .ref (A 12), .ref (A 13), .ref (A 18), .ref (A 19), .int (M.1 12), .int a1, .int (M.1 14), .int (M.1 15), .int (M.1 16), .int (M.1 17), .int (M.1 18)]))] := hD
    have hP9 := hP.sub (ws' := [(A 0, xc0 Z A (ap_U_chamber M a1)), (A 17, xc17 Z A (ap_U_chamber M a1))]) [0, 1] rfl
    have hD9 := hD.sub (ws' := [(A 0, xc0 Z A (ap_U_chamber M a1)), (A 17, xc17 Z A (ap_U_chamber M a1))]) [0, 1] (by decide) rfl
    exact W.vret hx hb hr (fun t ht hW => ⟨⟨a1, rfl, (by rw [F_U_chamber, ← hz1, F_U_chamber_k1, if_neg h2]), xE_at hP9 hK hD9 ht hW⟩, hS.F ht⟩) hS.2.2 d_U_chamber_31
  · exact absurd hT (by rw [T_U_chamber, ← hz1, T_U_chamber_k1, if_pos h2]; exact (by decide : ¬ (1 : Nat) = 0))
abbrev bc_U_fail : ByteArray := prog_1_method_11_code
def y_U_fail : MethodName := ⟨"CentrifugeUnit", "fail", "(II)V"⟩
theorem d_U_fail_0 : decode bc_U_fail 0 = .ok (.iload_n 1, 1) := by decide +kernel
theorem d_U_fail_1 : decode bc_U_fail 1 = .ok (.iconst 0, 1) := by decide +kernel
theorem d_U_fail_2 : decode bc_U_fail 2 = .ok (.iconst 1, 1) := by decide +kernel
theorem d_U_fail_3 : decode bc_U_fail 3 = .ok (.invokestatic 151, 3) := by decide +kernel
theorem d_U_fail_6 : decode bc_U_fail 6 = .ok (.ifCond .eq 13, 3) := by decide +kernel
theorem d_U_fail_9 : decode bc_U_fail 9 = .ok (.iload_n 2, 1) := by decide +kernel
theorem d_U_fail_10 : decode bc_U_fail 10 = .ok (.iconst (-1), 1) := by decide +kernel
theorem d_U_fail_11 : decode bc_U_fail 11 = .ok (.ldc 164, 2) := by decide +kernel
theorem d_U_fail_13 : decode bc_U_fail 13 = .ok (.invokestatic 151, 3) := by decide +kernel
theorem d_U_fail_16 : decode bc_U_fail 16 = .ok (.ifCond .ne 13, 3) := by decide +kernel
theorem d_U_fail_19 : decode bc_U_fail 19 = .ok (.new 68, 3) := by decide +kernel
theorem d_U_fail_22 : decode bc_U_fail 22 = .ok (.dup, 1) := by decide +kernel
theorem d_U_fail_23 : decode bc_U_fail 23 = .ok (.ldc 165, 2) := by decide +kernel
theorem d_U_fail_25 : decode bc_U_fail 25 = .ok (.invokespecial 72, 3) := by decide +kernel
theorem d_U_fail_28 : decode bc_U_fail 28 = .ok (.athrow, 1) := by decide +kernel
def T_U_fail_k2 (M : XM) (a1 : Int32) (a2 : Int32) (z1 : Int32) (z3 : Int32) : Nat := (if z3 = 0 then 1 else 0)
def T_U_fail_k1 (M : XM) (a1 : Int32) (a2 : Int32) (z1 : Int32) : Nat := (if z1 = 0 then 1 else (T_U_fail_k2 M a1 a2 z1 (F_U_within M a2 (-1) 1000000)))
def T_U_fail (M : XM) (a1 : Int32) (a2 : Int32) : Nat := (T_U_fail_k1 M a1 a2 (F_U_within M a1 0 1))
set_option maxHeartbeats 4000000 in
set_option maxRecDepth 100000 in
theorem t1_U_fail (l : Launch) (dC : Nat → ClassId) (dI : Nat → Nat → Nat) (Z : Nat → ClassId) (A : Nat → Nat) (sz : Nat) (M : XM) (a1 : Int32) (a2 : Int32) (htl : l.stackTraces = false) (hT : T_U_fail M a1 a2 = 1) : MetT l y_U_fail (.code y_U_fail bc_U_fail 3 none :: xw) ({ frames := 6, cells := 1, slots := 6, locals := 90 }) (va_Pc [.ref (A 0), .int a1, .int a2] (xBs (dC, dI) xcl (xty Z) sz [(A 0, xc0 Z A M), (A 11, xc11 Z A M)])) xIAE 1 6 := by
  refine MetT.ofW (cc := bc_U_fail) (maxL := 3) (ret := none) (by decide) rfl ?_
  intro p e s m args below meth c s₁ B hml hv
  obtain ⟨rfl, ⟨hsz, hP, hK, hD0, hq⟩, hs⟩ := hv
  have hx := B.exec
  have hb := B.bytes
  have hts := atoms_spec (ws := (.code y_U_fail bc_U_fail 3 none :: xw)) B.pre
  have htt : ∀ w ∈ xw, w.before _ s = true := fun w h => hts w (List.mem_cons_of_mem _ h)
  have hown : s.vm.findClass "CentrifugeUnit" = some m.cls := findClass_of_methodNamed B.named
  have hlocks := B.notSynchronized
  subst hsz
  have hD : va_D (fun _ => True) [(A 0, .inr (9, [.ref (A 1), .ref (A 6), .ref (A 10), .ref (A 11), .ref (A 12), .ref (A 13), .ref (A 17)])), (A 11, .inr (7, [.int (M.1 2), .int (M.1 3), .int (M.1 4), .int (M.1 5), .int (M.1 6), .int (M.1 7)]))] := hD0
  have hP : va_P (dC, dI) xcl [(A 0, .inr (9, [.ref (A 1), .ref (A 6), .ref (A 10), .ref (A 11), .ref (A 12), .ref (A 13), .ref (A 17)])), (A 11, .inr (7, [.int (M.1 2), .int (M.1 3), .int (M.1 4), .int (M.1 5), .int (M.1 6), .int (M.1 7)]))] s.heap := hP
  have hl := lv_entry ([.ref (A 0), .int a1, .int a2]) (n := 3) (Nat.le_of_ble_eq_true rfl)
  rw [lg_entry_eq]
  generalize (lg_sl ([.ref (A 0), .int a1, .int a2]) ++ List.replicate (3 - (lg_sl ([.ref (A 0), .int a1, .int a2])).length) Slot.unset).toArray = ls at hl ⊢
  have hl : lv_has ls 3 [(0, .ref (A 0)), (1, .int a1), (2, .int a2)] := hl
  refine lv_iload_n hx hb d_U_fail_0 rfl (lv_at hl 1 rfl) ?_
  refine lv_iconst (v := 0) hx hb d_U_fail_1 (by decide) ?_
  refine lv_iconst (v := 1) hx hb d_U_fail_2 (by decide) ?_
  have hPc := hP.sub (ws' := []) [] rfl
  have hDc := hD.sub (ws' := []) [] (by decide) rfl
  refine xk_p (va_runS (As := [.int a1, .int 0, .int 1]) (rest := []) ⟨hx, hb, hml, hown, hts⟩ (c_U_within l dC dI Z A _ M a1 0 1) (va_cwS 3 hts (xw_S _ tw_534 tw_326 tw_1 tw_327) rfl rfl rfl (by decide +kernel) ⟨Nat.le_of_ble_eq_true rfl, Nat.le_of_ble_eq_true rfl⟩) ⟨xB_blind, fun U hU hW => ⟨rfl, xB_at hPc hK hDc hq U hU hW⟩⟩ rfl rfl hl.1 rfl (lv_room (Nat.le_of_ble_eq_true rfl)) d_U_fail_3 ⟨Nat.le_of_ble_eq_true rfl, Nat.le_of_ble_eq_true rfl⟩) ?_
  refine lv_topi (fun z1 hz1 => ?_)
  refine lv_if_eq (tgt := 19) hx hb d_U_fail_6 rfl (fun h2 => ?_) (fun h2 => ?_)
  · obtain ⟨q9, hZ⟩ := hq.2.1 ("CentrifugeUnit", 165, "no such sensor or number") (by decide +kernel)
    exact xt_throw (names := ["java/lang/RuntimeException", "java/lang/Exception"]) hx hb htl hown (htt _ tw_353) (htt _ tw_354) (htt _ tw_16) hZ (xo_all htt hq hs xo_1_72) (by decide) (by decide) d_U_fail_19 d_U_fail_22 d_U_fail_23 d_U_fail_25 d_U_fail_28 (B.noHandlers (hts _ List.mem_cons_self)) (hl.1.trans hml.symm) hlocks (by decide) (by decide) (by decide) (by decide)
  · refine lv_iload_n hx hb d_U_fail_9 rfl (lv_at hl 2 rfl) ?_
    refine lv_iconst (v := (-1)) hx hb d_U_fail_10 (by decide) ?_
    refine lv_ldc (v := 1000000) hx hb hown (htt _ tw_551) d_U_fail_11 ?_
    have hPc := hP.sub (ws' := []) [] rfl
    have hDc := hD.sub (ws' := []) [] (by decide) rfl
    refine xk_p (va_runS (As := [.int a2, .int (-1), .int 1000000]) (rest := []) ⟨hx, hb, hml, hown, hts⟩ (c_U_within l dC dI Z A _ M a2 (-1) 1000000) (va_cwS 3 hts (xw_S _ tw_534 tw_326 tw_1 tw_327) rfl rfl rfl (by decide +kernel) ⟨Nat.le_of_ble_eq_true rfl, Nat.le_of_ble_eq_true rfl⟩) ⟨xB_blind, fun U hU hW => ⟨rfl, xB_at hPc hK hDc hq U hU hW⟩⟩ rfl rfl hl.1 rfl (lv_room (Nat.le_of_ble_eq_true rfl)) d_U_fail_13 ⟨Nat.le_of_ble_eq_true rfl, Nat.le_of_ble_eq_true rfl⟩) ?_
    refine lv_topi (fun z3 hz3 => ?_)
    refine lv_if_ne (tgt := 29) hx hb d_U_fail_16 rfl (fun h4 => ?_) (fun h4 => ?_)
    · exact absurd hT (by rw [T_U_fail, ← hz1, T_U_fail_k1, if_neg h2, ← hz3, T_U_fail_k2, if_neg h4]; exact (by decide : ¬ (0 : Nat) = 1))
    · obtain ⟨q9, hZ⟩ := hq.2.1 ("CentrifugeUnit", 165, "no such sensor or number") (by decide +kernel)
      exact xt_throw (names := ["java/lang/RuntimeException", "java/lang/Exception"]) hx hb htl hown (htt _ tw_353) (htt _ tw_354) (htt _ tw_16) hZ (xo_all htt hq hs xo_1_72) (by decide) (by decide) d_U_fail_19 d_U_fail_22 d_U_fail_23 d_U_fail_25 d_U_fail_28 (B.noHandlers (hts _ List.mem_cons_self)) (hl.1.trans hml.symm) hlocks (by decide) (by decide) (by decide) (by decide)
theorem d_U_fail_29 : decode bc_U_fail 29 = .ok (.iload_n 1, 1) := by decide +kernel
theorem d_U_fail_30 : decode bc_U_fail 30 = .ok (.ifCond .ne 14, 3) := by decide +kernel
theorem d_U_fail_33 : decode bc_U_fail 33 = .ok (.aload_n 0, 1) := by decide +kernel
theorem d_U_fail_34 : decode bc_U_fail 34 = .ok (.getfield 33, 3) := by decide +kernel
theorem d_U_fail_37 : decode bc_U_fail 37 = .ok (.iload_n 2, 1) := by decide +kernel
theorem d_U_fail_38 : decode bc_U_fail 38 = .ok (.putfield 167, 3) := by decide +kernel
theorem d_U_fail_41 : decode bc_U_fail 41 = .ok (.goto 11, 3) := by decide +kernel
theorem d_U_fail_44 : decode bc_U_fail 44 = .ok (.aload_n 0, 1) := by decide +kernel
theorem d_U_fail_45 : decode bc_U_fail 45 = .ok (.getfield 33, 3) := by decide +kernel
theorem d_U_fail_48 : decode bc_U_fail 48 = .ok (.iload_n 2, 1) := by decide +kernel
theorem d_U_fail_49 : decode bc_U_fail 49 = .ok (.putfield 170, 3) := by decide +kernel
theorem d_U_fail_52 : decode bc_U_fail 52 = .ok (.return_, 1) := by decide +kernel
abbrev ap_U_fail (M : XM) (u : (Int32 × Int32)) : XM := ((va_up (va_up M.1 3 (u.1)) 2 (u.2)), M.2)
def F_U_fail_k2 (M : XM) (a1 : Int32) (a2 : Int32) (z1 : Int32) (z3 : Int32) : (Int32 × Int32) := (if z3 = 0 then ((M.1 3), (M.1 2)) else (if a1 = 0 then ((M.1 3), a2) else (a2, (M.1 2))))
def F_U_fail_k1 (M : XM) (a1 : Int32) (a2 : Int32) (z1 : Int32) : (Int32 × Int32) := (if z1 = 0 then ((M.1 3), (M.1 2)) else (F_U_fail_k2 M a1 a2 z1 (F_U_within M a2 (-1) 1000000)))
def F_U_fail (M : XM) (a1 : Int32) (a2 : Int32) : (Int32 × Int32) := (F_U_fail_k1 M a1 a2 (F_U_within M a1 0 1))
set_option maxHeartbeats 4000000 in
set_option maxRecDepth 100000 in
theorem c_U_fail (l : Launch) (dC : Nat → ClassId) (dI : Nat → Nat → Nat) (Z : Nat → ClassId) (A : Nat → Nat) (sz : Nat) (M : XM) (a1 : Int32) (a2 : Int32) (hT : T_U_fail M a1 a2 = 0) : Met l y_U_fail (.code y_U_fail bc_U_fail 3 none :: xw) ({ frames := 1, cells := 0, slots := 0, locals := 22 }) (va_Pc [.ref (A 0), .int a1, .int a2] (xB (dC, dI) xcl (xty Z) sz [(A 0, xc0 Z A M), (A 11, xc11 Z A M)])) (va_Qv (fun u : (Int32 × Int32) => u = F_U_fail M a1 a2) (fun u => xE (dC, dI) xcl (xty Z) (va_A [(A 0, xc0 Z A M), (A 11, xc11 Z A M)] sz) [(A 0, xc0 Z A (ap_U_fail M u)), (A 11, xc11 Z A (ap_U_fail M u))]) (va_A [(A 0, xc0 Z A M), (A 11, xc11 Z A M)] sz)) 0 0 (va_A [(A 0, xc0 Z A M), (A 11, xc11 Z A M)] sz) := by
  refine Met.ofW (cc := bc_U_fail) (maxL := 3) (ret := none) (by decide) rfl ?_
  intro p e s m args below meth c s₁ B hml hv
  obtain ⟨rfl, hsz, hP, hK, hD0, hq⟩ := hv
  have hx := B.exec
  have hb := B.bytes
  have hr := B.returns
  have hts := atoms_spec (ws := (.code y_U_fail bc_U_fail 3 none :: xw)) B.pre
  have htt : ∀ w ∈ xw, w.before _ s = true := fun w h => hts w (List.mem_cons_of_mem _ h)
  have hown : s.vm.findClass "CentrifugeUnit" = some m.cls := findClass_of_methodNamed B.named
  have hlocks := B.notSynchronized
  subst hsz
  have hD := hD0.self (sz := s.heap.size)
  generalize hAe : va_A [(A 0, xc0 Z A M), (A 11, xc11 Z A M)] s.heap.size = AA at hD ⊢
  have hA : ∀ q : Nat, s.heap.size ≤ q → AA q := fun q h => by rw [← hAe]; exact Or.inr h
  have hS : va_S AA s.heap s.heap [] := va_S.rf
  have hP : va_P (dC, dI) xcl [(A 0, .inr (9, [.ref (A 1), .ref (A 6), .ref (A 10), .ref (A 11), .ref (A 12), .ref (A 13), .ref (A 17)])), (A 11, .inr (7, [.int (M.1 2), .int (M.1 3), .int (M.1 4), .int (M.1 5), .int (M.1 6), .int (M.1 7)]))] s.heap := hP
  have hD : va_D AA [(A 0, .inr (9, [.ref (A 1), .ref (A 6), .ref (A 10), .ref (A 11), .ref (A 12), .ref (A 13), .ref (A 17)])), (A 11, .inr (7, [.int (M.1 2), .int (M.1 3), .int (M.1 4), .int (M.1 5), .int (M.1 6), .int (M.1 7)]))] := hD
  have hl := lv_entry ([.ref (A 0), .int a1, .int a2]) (n := 3) (Nat.le_of_ble_eq_true rfl)
  rw [lg_entry_eq]
  generalize (lg_sl ([.ref (A 0), .int a1, .int a2]) ++ List.replicate (3 - (lg_sl ([.ref (A 0), .int a1, .int a2])).length) Slot.unset).toArray = ls at hl ⊢
  have hl : lv_has ls 3 [(0, .ref (A 0)), (1, .int a1), (2, .int a2)] := hl
  refine lv_iload_n hx hb d_U_fail_0 rfl (lv_at hl 1 rfl) ?_
  refine lv_iconst (v := 0) hx hb d_U_fail_1 (by decide) ?_
  refine lv_iconst (v := 1) hx hb d_U_fail_2 (by decide) ?_
  have hPc := hP.sub (ws' := []) [] rfl
  have hDc := hD.sub (ws' := []) [] (by decide) rfl
  refine xk_p (va_runS (As := [.int a1, .int 0, .int 1]) (rest := []) ⟨hx, hb, hml, hown, hts⟩ (c_U_within l dC dI Z A _ M a1 0 1) (va_cwS 3 hts (xw_S _ tw_534 tw_326 tw_1 tw_327) rfl rfl rfl (by decide +kernel) ⟨Nat.le_of_ble_eq_true rfl, Nat.le_of_ble_eq_true rfl⟩) ⟨xB_blind, fun U hU hW => ⟨rfl, xB_at hPc hK hDc hq U hU hW⟩⟩ rfl rfl hl.1 rfl (lv_room (Nat.le_of_ble_eq_true rfl)) d_U_fail_3 ⟨Nat.le_of_ble_eq_true rfl, Nat.le_of_ble_eq_true rfl⟩) ?_
  refine lv_topi (fun z1 hz1 => ?_)
  refine lv_if_eq (tgt := 19) hx hb d_U_fail_6 rfl (fun h2 => ?_) (fun h2 => ?_)
  · exact absurd hT (by rw [T_U_fail, ← hz1, T_U_fail_k1, if_pos h2]; exact (by decide : ¬ (1 : Nat) = 0))
  · refine lv_iload_n hx hb d_U_fail_9 rfl (lv_at hl 2 rfl) ?_
    refine lv_iconst (v := (-1)) hx hb d_U_fail_10 (by decide) ?_
    refine lv_ldc (v := 1000000) hx hb hown (htt _ tw_551) d_U_fail_11 ?_
    have hPc := hP.sub (ws' := []) [] rfl
    have hDc := hD.sub (ws' := []) [] (by decide) rfl
    refine xk_p (va_runS (As := [.int a2, .int (-1), .int 1000000]) (rest := []) ⟨hx, hb, hml, hown, hts⟩ (c_U_within l dC dI Z A _ M a2 (-1) 1000000) (va_cwS 3 hts (xw_S _ tw_534 tw_326 tw_1 tw_327) rfl rfl rfl (by decide +kernel) ⟨Nat.le_of_ble_eq_true rfl, Nat.le_of_ble_eq_true rfl⟩) ⟨xB_blind, fun U hU hW => ⟨rfl, xB_at hPc hK hDc hq U hU hW⟩⟩ rfl rfl hl.1 rfl (lv_room (Nat.le_of_ble_eq_true rfl)) d_U_fail_13 ⟨Nat.le_of_ble_eq_true rfl, Nat.le_of_ble_eq_true rfl⟩) ?_
    refine lv_topi (fun z3 hz3 => ?_)
    refine lv_if_ne (tgt := 29) hx hb d_U_fail_16 rfl (fun h4 => ?_) (fun h4 => ?_)
    · refine lv_iload_n hx hb d_U_fail_29 rfl (lv_at hl 1 rfl) ?_
      refine lv_if_ne (tgt := 44) hx hb d_U_fail_30 rfl (fun h5 => ?_) (fun h5 => ?_)
      · refine lv_aload_n hx hb d_U_fail_44 rfl (lv_at hl 0 rfl) ?_
        refine va_get (D := (dC, dI)) (ci := 9) (v := .ref (A 11)) (C := "CentrifugeUnit") (T := xF9) (N := 7) hx hb htt xin9 hown hK hP 0 rfl rfl 3 (by decide) (htt _ tw_286) (fun _ h9 => h9) rfl d_U_fail_45 ?_
        refine lv_iload_n hx hb d_U_fail_48 rfl (lv_at hl 2 rfl) ?_
        refine va_put (D := (dC, dI)) (ci := 7) (v := .int a2) (ty := .int) (C := "CentrifugeUnit$Sensors") (T := xF7) (N := 6) hx hb htt xin7 xT7 xTo7 xNm7 hown hK hP hD hS 1 rfl rfl 1 (by decide) (htt _ tw_98) (fun _ h9 => h9) rfl (by decide +kernel) rfl rfl (Nat.le_of_ble_eq_true rfl) d_U_fail_49 (fun H locs hP hD hS => ?_)
        have hP : va_P (dC, dI) xcl [(A 0, .inr (9, [.ref (A 1), .ref (A 6), .ref (A 10), .ref (A 11), .ref (A 12), .ref (A 13), .ref (A 17)])), (A 11, .inr (7, [.int (M.1 2), .int a2, .int (M.1 4), .int (M.1 5), .int (M.1 6), .int (M.1 7)]))] H := hP
        have hD : va_D AA [(A 0, .inr (9, [.ref (A 1), .ref (A 6), .ref (A 10), .ref (A 11), .ref (A 12), .ref (A 13), .ref (A 17)])), (A 11, .inr (7, [.int (M.1 2), .int a2, .int (M.1 4), .int (M.1 5), .int (M.1 6), .int (M.1 7)]))] := hD
        have hP9 := hP.sub (ws' := [(A 0, xc0 Z A (ap_U_fail M (a2, (M.1 2)))), (A 11, xc11 Z A (ap_U_fail M (a2, (M.1 2))))]) [0, 1] rfl
        have hD9 := hD.sub (ws' := [(A 0, xc0 Z A (ap_U_fail M (a2, (M.1 2)))), (A 11, xc11 Z A (ap_U_fail M (a2, (M.1 2))))]) [0, 1] (by decide) rfl
        exact W.vret hx hb hr (fun t ht hW => ⟨⟨(a2, (M.1 2)), rfl, (by rw [F_U_fail, ← hz1, F_U_fail_k1, if_neg h2, ← hz3, F_U_fail_k2, if_neg h4, if_neg h5]), xE_at hP9 hK hD9 ht hW⟩, hS.F ht⟩) hS.2.2 d_U_fail_52
      · refine lv_aload_n hx hb d_U_fail_33 rfl (lv_at hl 0 rfl) ?_
        refine va_get (D := (dC, dI)) (ci := 9) (v := .ref (A 11)) (C := "CentrifugeUnit") (T := xF9) (N := 7) hx hb htt xin9 hown hK hP 0 rfl rfl 3 (by decide) (htt _ tw_286) (fun _ h9 => h9) rfl d_U_fail_34 ?_
        refine lv_iload_n hx hb d_U_fail_37 rfl (lv_at hl 2 rfl) ?_
        refine va_put (D := (dC, dI)) (ci := 7) (v := .int a2) (ty := .int) (C := "CentrifugeUnit$Sensors") (T := xF7) (N := 6) hx hb htt xin7 xT7 xTo7 xNm7 hown hK hP hD hS 1 rfl rfl 0 (by decide) (htt _ tw_96) (fun _ h9 => h9) rfl (by decide +kernel) rfl rfl (Nat.le_of_ble_eq_true rfl) d_U_fail_38 (fun H locs hP hD hS => ?_)
        have hP : va_P (dC, dI) xcl [(A 0, .inr (9, [.ref (A 1), .ref (A 6), .ref (A 10), .ref (A 11), .ref (A 12), .ref (A 13), .ref (A 17)])), (A 11, .inr (7, [.int a2, .int (M.1 3), .int (M.1 4), .int (M.1 5), .int (M.1 6), .int (M.1 7)]))] H := hP
        have hD : va_D AA [(A 0, .inr (9, [.ref (A 1), .ref (A 6), .ref (A 10), .ref (A 11), .ref (A 12), .ref (A 13), .ref (A 17)])), (A 11, .inr (7, [.int a2, .int (M.1 3), .int (M.1 4), .int (M.1 5), .int (M.1 6), .int (M.1 7)]))] := hD
        refine lv_goto (tgt := 52) hx hb d_U_fail_41 rfl ?_
        have hP9 := hP.sub (ws' := [(A 0, xc0 Z A (ap_U_fail M ((M.1 3), a2))), (A 11, xc11 Z A (ap_U_fail M ((M.1 3), a2)))]) [0, 1] rfl
        have hD9 := hD.sub (ws' := [(A 0, xc0 Z A (ap_U_fail M ((M.1 3), a2))), (A 11, xc11 Z A (ap_U_fail M ((M.1 3), a2)))]) [0, 1] (by decide) rfl
        exact W.vret hx hb hr (fun t ht hW => ⟨⟨((M.1 3), a2), rfl, (by rw [F_U_fail, ← hz1, F_U_fail_k1, if_neg h2, ← hz3, F_U_fail_k2, if_neg h4, if_pos h5]), xE_at hP9 hK hD9 ht hW⟩, hS.F ht⟩) hS.2.2 d_U_fail_52
    · exact absurd hT (by rw [T_U_fail, ← hz1, T_U_fail_k1, if_neg h2, ← hz3, T_U_fail_k2, if_pos h4]; exact (by decide : ¬ (1 : Nat) = 0))
abbrev bc_U_start : ByteArray := prog_1_method_5_code
def y_U_start : MethodName := ⟨"CentrifugeUnit", "start", "()V"⟩
theorem d_U_start_0 : decode bc_U_start 0 = .ok (.aload_n 0, 1) := by decide +kernel
theorem d_U_start_1 : decode bc_U_start 1 = .ok (.getfield 56, 3) := by decide +kernel
theorem d_U_start_4 : decode bc_U_start 4 = .ok (.iconst 0, 1) := by decide +kernel
theorem d_U_start_5 : decode bc_U_start 5 = .ok (.invokevirtual 75, 3) := by decide +kernel
theorem d_U_start_8 : decode bc_U_start 8 = .ok (.ifCond .eq 23, 3) := by decide +kernel
theorem d_U_start_11 : decode bc_U_start 11 = .ok (.aload_n 0, 1) := by decide +kernel
theorem d_U_start_12 : decode bc_U_start 12 = .ok (.getfield 19, 3) := by decide +kernel
theorem d_U_start_15 : decode bc_U_start 15 = .ok (.getfield 108, 3) := by decide +kernel
theorem d_U_start_18 : decode bc_U_start 18 = .ok (.ifCond .eq 13, 3) := by decide +kernel
theorem d_U_start_21 : decode bc_U_start 21 = .ok (.aload_n 0, 1) := by decide +kernel
theorem d_U_start_22 : decode bc_U_start 22 = .ok (.getfield 40, 3) := by decide +kernel
theorem d_U_start_25 : decode bc_U_start 25 = .ok (.invokevirtual 115, 3) := by decide +kernel
theorem d_U_start_28 : decode bc_U_start 28 = .ok (.ifCond .ne 13, 3) := by decide +kernel
theorem d_U_start_31 : decode bc_U_start 31 = .ok (.new 79, 3) := by decide +kernel
theorem d_U_start_34 : decode bc_U_start 34 = .ok (.dup, 1) := by decide +kernel
theorem d_U_start_35 : decode bc_U_start 35 = .ok (.ldc 118, 2) := by decide +kernel
theorem d_U_start_37 : decode bc_U_start 37 = .ok (.invokespecial 83, 3) := by decide +kernel
theorem d_U_start_40 : decode bc_U_start 40 = .ok (.athrow, 1) := by decide +kernel
def T_U_start_k2 (M : XM) (z1 : Int32) (z4 : Int32) : Nat := (if z4 = 0 then 2 else 0)
def T_U_start_k1 (M : XM) (z1 : Int32) : Nat := (if z1 = 0 then 2 else (if (M.1 1) = 0 then 2 else (T_U_start_k2 M z1 (F_Lid_locked M))))
def T_U_start (M : XM) : Nat := (T_U_start_k1 M (F_Control_takesOrders M 0))
set_option maxHeartbeats 4000000 in
set_option maxRecDepth 100000 in
theorem t2_U_start (l : Launch) (dC : Nat → ClassId) (dI : Nat → Nat → Nat) (Z : Nat → ClassId) (A : Nat → Nat) (sz : Nat) (M : XM) (htl : l.stackTraces = false) (hT : T_U_start M = 2) : MetT l y_U_start (.code y_U_start bc_U_start 1 none :: xw) ({ frames := 6, cells := 1, slots := 6, locals := 90 }) (va_Pc [.ref (A 0)] (xBs (dC, dI) xcl (xty Z) sz [(A 0, xc0 Z A M), (A 17, xc17 Z A M), (A 6, xc6 Z A M), (A 12, xc12 Z A M), (A 19, xc19 Z A M)])) xISE 1 6 := by
  refine MetT.ofW (cc := bc_U_start) (maxL := 1) (ret := none) (by decide) rfl ?_
  intro p e s m args below meth c s₁ B hml hv
  obtain ⟨rfl, ⟨hsz, hP, hK, hD0, hq⟩, hs⟩ := hv
  have hx := B.exec
  have hb := B.bytes
  have hts := atoms_spec (ws := (.code y_U_start bc_U_start 1 none :: xw)) B.pre
  have htt : ∀ w ∈ xw, w.before _ s = true := fun w h => hts w (List.mem_cons_of_mem _ h)
  have hown : s.vm.findClass "CentrifugeUnit" = some m.cls := findClass_of_methodNamed B.named
  have hlocks := B.notSynchronized
  subst hsz
  have hD : va_D (fun _ => True) [(A 0, .inr (9, [.ref (A 1), .ref (A 6), .ref (A 10), .ref (A 11), .ref (A 12), .ref (A 13), .ref (A 17)])), (A 17, .inr (0, [.ref (A 1), .ref (A 6), .ref (A 11), .ref (A 12), .ref (A 13), .ref (A 18), .ref (A 19), .int (M.1 12), .int (M.1 13), .int (M.1 14), .int (M.1 15), .int (M.1 16), .int (M.1 17), .int (M.1 18)])), (A 6, .inr (3, [.ref (A 7), .ref (A 8), .ref (A 9), .int (M.1 1)])), (A 12, .inr (1, [.int (M.1 8), .int (M.1 9), .int (M.1 10)])), (A 19, .inr (6, [.long (M.2.1 1), .long (M.2.1 2), .int (M.1 23), .int (M.1 24), .int (M.1 25), .int (M.1 26), .int (M.1 27), .int (M.1 28)]))] := hD0
  have hP : va_P (dC, dI) xcl [(A 0, .inr (9, [.ref (A 1), .ref (A 6), .ref (A 10), .ref (A 11), .ref (A 12), .ref (A 13), .ref (A 17)])), (A 17, .inr (0, [.ref (A 1), .ref (A 6), .ref (A 11), .ref (A 12), .ref (A 13), .ref (A 18), .ref (A 19), .int (M.1 12), .int (M.1 13), .int (M.1 14), .int (M.1 15), .int (M.1 16), .int (M.1 17), .int (M.1 18)])), (A 6, .inr (3, [.ref (A 7), .ref (A 8), .ref (A 9), .int (M.1 1)])), (A 12, .inr (1, [.int (M.1 8), .int (M.1 9), .int (M.1 10)])), (A 19, .inr (6, [.long (M.2.1 1), .long (M.2.1 2), .int (M.1 23), .int (M.1 24), .int (M.1 25), .int (M.1 26), .int (M.1 27), .int (M.1 28)]))] s.heap := hP
  have hl := lv_entry ([.ref (A 0)]) (n := 1) (Nat.le_of_ble_eq_true rfl)
  rw [lg_entry_eq]
  generalize (lg_sl ([.ref (A 0)]) ++ List.replicate (1 - (lg_sl ([.ref (A 0)])).length) Slot.unset).toArray = ls at hl ⊢
  have hl : lv_has ls 1 [(0, .ref (A 0))] := hl
  refine lv_aload_n hx hb d_U_start_0 rfl (lv_at hl 0 rfl) ?_
  refine va_get (D := (dC, dI)) (ci := 9) (v := .ref (A 17)) (C := "CentrifugeUnit") (T := xF9) (N := 7) hx hb htt xin9 hown hK hP 0 rfl rfl 6 (by decide) (htt _ tw_289) (fun _ h9 => h9) rfl d_U_start_1 ?_
  refine lv_iconst (v := 0) hx hb d_U_start_4 (by decide) ?_
  have hPc := hP.sub (ws' := [(A 17, xc17 Z A M)]) [1] rfl
  have hDc := hD.sub (ws' := [(A 17, xc17 Z A M)]) [1] (by decide) rfl
  refine xk_p (va_runV (As := [.int 0]) (rest := []) ⟨hx, hb, hml, hown, hts⟩ (c_Control_takesOrders l dC dI Z A _ M 0) (cwV 1 hts (xw_V _ tw_421 tw_422 tw_423 tw_9 tw_424) rfl rfl rfl (by decide +kernel) ⟨Nat.le_of_ble_eq_true rfl, Nat.le_of_ble_eq_true rfl⟩) ⟨xB_blind, va_recv (q0 := 1) (ci := 0) hK hP rfl rfl, fun U hU hW => ⟨rfl, xB_at hPc hK hDc hq U hU hW⟩⟩ rfl rfl hl.1 rfl (lv_room (Nat.le_of_ble_eq_true rfl)) d_U_start_5 ⟨Nat.le_of_ble_eq_true rfl, Nat.le_of_ble_eq_true rfl⟩) ?_
  refine lv_topi (fun z1 hz1 => ?_)
  refine lv_if_eq (tgt := 31) hx hb d_U_start_8 rfl (fun h2 => ?_) (fun h2 => ?_)
  · obtain ⟨q9, hZ⟩ := hq.2.1 ("CentrifugeUnit", 118, "not idle, no power, no program, or not locked") (by decide +kernel)
    exact xt_throw (names := ["java/lang/RuntimeException", "java/lang/Exception"]) hx hb htl hown (htt _ tw_425) (htt _ tw_426) (htt _ tw_17) hZ (xo_all htt hq hs xo_2_83) (by decide) (by decide) d_U_start_31 d_U_start_34 d_U_start_35 d_U_start_37 d_U_start_40 (B.noHandlers (hts _ List.mem_cons_self)) (hl.1.trans hml.symm) hlocks (by decide) (by decide) (by decide) (by decide)
  · refine lv_aload_n hx hb d_U_start_11 rfl (lv_at hl 0 rfl) ?_
    refine va_get (D := (dC, dI)) (ci := 9) (v := .ref (A 6)) (C := "CentrifugeUnit") (T := xF9) (N := 7) hx hb htt xin9 hown hK hP 0 rfl rfl 1 (by decide) (htt _ tw_284) (fun _ h9 => h9) rfl d_U_start_12 ?_
    refine va_get (D := (dC, dI)) (ci := 3) (v := .int (M.1 1)) (C := "CentrifugeUnit$Program") (T := xF3) (N := 4) hx hb htt xin3 hown hK hP 2 rfl rfl 3 (by decide) (htt _ tw_68) (fun _ h9 => h9) rfl d_U_start_15 ?_
    refine lv_if_eq (tgt := 31) hx hb d_U_start_18 rfl (fun h3 => ?_) (fun h3 => ?_)
    · obtain ⟨q9, hZ⟩ := hq.2.1 ("CentrifugeUnit", 118, "not idle, no power, no program, or not locked") (by decide +kernel)
      exact xt_throw (names := ["java/lang/RuntimeException", "java/lang/Exception"]) hx hb htl hown (htt _ tw_425) (htt _ tw_426) (htt _ tw_17) hZ (xo_all htt hq hs xo_2_83) (by decide) (by decide) d_U_start_31 d_U_start_34 d_U_start_35 d_U_start_37 d_U_start_40 (B.noHandlers (hts _ List.mem_cons_self)) (hl.1.trans hml.symm) hlocks (by decide) (by decide) (by decide) (by decide)
    · refine lv_aload_n hx hb d_U_start_21 rfl (lv_at hl 0 rfl) ?_
      refine va_get (D := (dC, dI)) (ci := 9) (v := .ref (A 12)) (C := "CentrifugeUnit") (T := xF9) (N := 7) hx hb htt xin9 hown hK hP 0 rfl rfl 4 (by decide) (htt _ tw_287) (fun _ h9 => h9) rfl d_U_start_22 ?_
      have hPc := hP.sub (ws' := [(A 12, xc12 Z A M)]) [3] rfl
      have hDc := hD.sub (ws' := [(A 12, xc12 Z A M)]) [3] (by decide) rfl
      refine xk_p (va_runV (As := []) (rest := []) ⟨hx, hb, hml, hown, hts⟩ (c_Lid_locked l dC dI Z A _ M) (cwV 0 hts (xw_V _ tw_485 tw_486 tw_487 tw_7 tw_488) rfl rfl rfl (by decide +kernel) ⟨Nat.le_of_ble_eq_true rfl, Nat.le_of_ble_eq_true rfl⟩) ⟨xB_blind, va_recv (q0 := 3) (ci := 1) hK hP rfl rfl, fun U hU hW => ⟨rfl, xB_at hPc hK hDc hq U hU hW⟩⟩ rfl rfl hl.1 rfl (lv_room (Nat.le_of_ble_eq_true rfl)) d_U_start_25 ⟨Nat.le_of_ble_eq_true rfl, Nat.le_of_ble_eq_true rfl⟩) ?_
      refine lv_topi (fun z4 hz4 => ?_)
      refine lv_if_ne (tgt := 41) hx hb d_U_start_28 rfl (fun h5 => ?_) (fun h5 => ?_)
      · exact absurd hT (by rw [T_U_start, ← hz1, T_U_start_k1, if_neg h2, if_neg h3, ← hz4, T_U_start_k2, if_neg h5]; exact (by decide : ¬ (0 : Nat) = 2))
      · obtain ⟨q9, hZ⟩ := hq.2.1 ("CentrifugeUnit", 118, "not idle, no power, no program, or not locked") (by decide +kernel)
        exact xt_throw (names := ["java/lang/RuntimeException", "java/lang/Exception"]) hx hb htl hown (htt _ tw_425) (htt _ tw_426) (htt _ tw_17) hZ (xo_all htt hq hs xo_2_83) (by decide) (by decide) d_U_start_31 d_U_start_34 d_U_start_35 d_U_start_37 d_U_start_40 (B.noHandlers (hts _ List.mem_cons_self)) (hl.1.trans hml.symm) hlocks (by decide) (by decide) (by decide) (by decide)
theorem d_U_start_41 : decode bc_U_start 41 = .ok (.aload_n 0, 1) := by decide +kernel
theorem d_U_start_42 : decode bc_U_start 42 = .ok (.getfield 56, 3) := by decide +kernel
theorem d_U_start_45 : decode bc_U_start 45 = .ok (.invokevirtual 120, 3) := by decide +kernel
theorem d_U_start_48 : decode bc_U_start 48 = .ok (.return_, 1) := by decide +kernel
abbrev ap_U_start (M : XM) (u : (Int64 × Int64 × Int32 × Int32 × Int32 × Int32 × Int32 × Int32 × Int32 × Int32)) : XM := ((va_up (va_up (va_up (va_up (va_up (va_up (va_up (va_up M.1 23 (u.2.2.1)) 24 (u.2.2.2.1)) 25 (u.2.2.2.2.1)) 26 (u.2.2.2.2.2.1)) 27 (u.2.2.2.2.2.2.1)) 28 (u.2.2.2.2.2.2.2.1)) 15 (u.2.2.2.2.2.2.2.2.1)) 14 (u.2.2.2.2.2.2.2.2.2)), (va_up (va_up M.2.1 1 (u.1)) 2 (u.2.1)), M.2.2)
def F_U_start_k3 (M : XM) (z1 : Int32) (z4 : Int32) (u6 : (Int64 × Int64 × Int32 × Int32 × Int32 × Int32 × Int32 × Int32 × Int32 × Int32)) : (Int64 × Int64 × Int32 × Int32 × Int32 × Int32 × Int32 × Int32 × Int32 × Int32) := ((u6.1), (u6.2.1), (u6.2.2.1), (u6.2.2.2.1), (u6.2.2.2.2.1), (u6.2.2.2.2.2.1), (u6.2.2.2.2.2.2.1), (u6.2.2.2.2.2.2.2.1), (u6.2.2.2.2.2.2.2.2.1), (u6.2.2.2.2.2.2.2.2.2))
def F_U_start_k2 (M : XM) (z1 : Int32) (z4 : Int32) : (Int64 × Int64 × Int32 × Int32 × Int32 × Int32 × Int32 × Int32 × Int32 × Int32) := (if z4 = 0 then ((M.2.1 1), (M.2.1 2), (M.1 23), (M.1 24), (M.1 25), (M.1 26), (M.1 27), (M.1 28), (M.1 15), (M.1 14)) else (F_U_start_k3 M z1 z4 (F_Control_beginRun M)))
def F_U_start_k1 (M : XM) (z1 : Int32) : (Int64 × Int64 × Int32 × Int32 × Int32 × Int32 × Int32 × Int32 × Int32 × Int32) := (if z1 = 0 then ((M.2.1 1), (M.2.1 2), (M.1 23), (M.1 24), (M.1 25), (M.1 26), (M.1 27), (M.1 28), (M.1 15), (M.1 14)) else (if (M.1 1) = 0 then ((M.2.1 1), (M.2.1 2), (M.1 23), (M.1 24), (M.1 25), (M.1 26), (M.1 27), (M.1 28), (M.1 15), (M.1 14)) else (F_U_start_k2 M z1 (F_Lid_locked M))))
def F_U_start (M : XM) : (Int64 × Int64 × Int32 × Int32 × Int32 × Int32 × Int32 × Int32 × Int32 × Int32) := (F_U_start_k1 M (F_Control_takesOrders M 0))
set_option maxHeartbeats 4000000 in
set_option maxRecDepth 100000 in
theorem c_U_start (l : Launch) (dC : Nat → ClassId) (dI : Nat → Nat → Nat) (Z : Nat → ClassId) (A : Nat → Nat) (sz : Nat) (M : XM) (hT : T_U_start M = 0) : Met l y_U_start (.code y_U_start bc_U_start 1 none :: xw) ({ frames := 2, cells := 0, slots := 0, locals := 40 }) (va_Pc [.ref (A 0)] (xB (dC, dI) xcl (xty Z) sz [(A 0, xc0 Z A M), (A 17, xc17 Z A M), (A 6, xc6 Z A M), (A 12, xc12 Z A M), (A 19, xc19 Z A M)])) (va_Qv (fun u : (Int64 × Int64 × Int32 × Int32 × Int32 × Int32 × Int32 × Int32 × Int32 × Int32) => u = F_U_start M) (fun u => xE (dC, dI) xcl (xty Z) (va_A [(A 0, xc0 Z A M), (A 17, xc17 Z A M), (A 6, xc6 Z A M), (A 12, xc12 Z A M), (A 19, xc19 Z A M)] sz) [(A 0, xc0 Z A (ap_U_start M u)), (A 17, xc17 Z A (ap_U_start M u)), (A 6, xc6 Z A (ap_U_start M u)), (A 12, xc12 Z A (ap_U_start M u)), (A 19, xc19 Z A (ap_U_start M u))]) (va_A [(A 0, xc0 Z A M), (A 17, xc17 Z A M), (A 6, xc6 Z A M), (A 12, xc12 Z A M), (A 19, xc19 Z A M)] sz)) 0 0 (va_A [(A 0, xc0 Z A M), (A 17, xc17 Z A M), (A 6, xc6 Z A M), (A 12, xc12 Z A M), (A 19, xc19 Z A M)] sz) := by
  refine Met.ofW (cc := bc_U_start) (maxL := 1) (ret := none) (by decide) rfl ?_
  intro p e s m args below meth c s₁ B hml hv
  obtain ⟨rfl, hsz, hP, hK, hD0, hq⟩ := hv
  have hx := B.exec
  have hb := B.bytes
  have hr := B.returns
  have hts := atoms_spec (ws := (.code y_U_start bc_U_start 1 none :: xw)) B.pre
  have htt : ∀ w ∈ xw, w.before _ s = true := fun w h => hts w (List.mem_cons_of_mem _ h)
  have hown : s.vm.findClass "CentrifugeUnit" = some m.cls := findClass_of_methodNamed B.named
  have hlocks := B.notSynchronized
  subst hsz
  have hD := hD0.self (sz := s.heap.size)
  generalize hAe : va_A [(A 0, xc0 Z A M), (A 17, xc17 Z A M), (A 6, xc6 Z A M), (A 12, xc12 Z A M), (A 19, xc19 Z A M)] s.heap.size = AA at hD ⊢
  have hA : ∀ q : Nat, s.heap.size ≤ q → AA q := fun q h => by rw [← hAe]; exact Or.inr h
  have hS : va_S AA s.heap s.heap [] := va_S.rf
  have hP : va_P (dC, dI) xcl [(A 0, .inr (9, [.ref (A 1), .ref (A 6), .ref (A 10), .ref (A 11), .ref (A 12), .ref (A 13), .ref (A 17)])), (A 17, .inr (0, [.ref (A 1), .ref (A 6), .ref (A 11), .ref (A 12), .ref (A 13), .ref (A 18), .ref (A 19), .int (M.1 12), .int (M.1 13), .int (M.1 14), .int (M.1 15), .int (M.1 16), .int (M.1 17), .int (M.1 18)])), (A 6, .inr (3, [.ref (A 7), .ref (A 8), .ref (A 9), .int (M.1 1)])), (A 12, .inr (1, [.int (M.1 8), .int (M.1 9), .int (M.1 10)])), (A 19, .inr (6, [.long (M.2.1 1), .long (M.2.1 2), .int (M.1 23), .int (M.1 24), .int (M.1 25), .int (M.1 26), .int (M.1 27), .int (M.1 28)]))] s.heap := hP
  have hD : va_D AA [(A 0, .inr (9, [.ref (A 1), .ref (A 6), .ref (A 10), .ref (A 11), .ref (A 12), .ref (A 13), .ref (A 17)])), (A 17, .inr (0, [.ref (A 1), .ref (A 6), .ref (A 11), .ref (A 12), .ref (A 13), .ref (A 18), .ref (A 19), .int (M.1 12), .int (M.1 13), .int (M.1 14), .int (M.1 15), .int (M.1 16), .int (M.1 17), .int (M.1 18)])), (A 6, .inr (3, [.ref (A 7), .ref (A 8), .ref (A 9), .int (M.1 1)])), (A 12, .inr (1, [.int (M.1 8), .int (M.1 9), .int (M.1 10)])), (A 19, .inr (6, [.long (M.2.1 1), .long (M.2.1 2), .int (M.1 23), .int (M.1 24), .int (M.1 25), .int (M.1 26), .int (M.1 27), .int (M.1 28)]))] := hD
  have hl := lv_entry ([.ref (A 0)]) (n := 1) (Nat.le_of_ble_eq_true rfl)
  rw [lg_entry_eq]
  generalize (lg_sl ([.ref (A 0)]) ++ List.replicate (1 - (lg_sl ([.ref (A 0)])).length) Slot.unset).toArray = ls at hl ⊢
  have hl : lv_has ls 1 [(0, .ref (A 0))] := hl
  refine lv_aload_n hx hb d_U_start_0 rfl (lv_at hl 0 rfl) ?_
  refine va_get (D := (dC, dI)) (ci := 9) (v := .ref (A 17)) (C := "CentrifugeUnit") (T := xF9) (N := 7) hx hb htt xin9 hown hK hP 0 rfl rfl 6 (by decide) (htt _ tw_289) (fun _ h9 => h9) rfl d_U_start_1 ?_
  refine lv_iconst (v := 0) hx hb d_U_start_4 (by decide) ?_
  have hPc := hP.sub (ws' := [(A 17, xc17 Z A M)]) [1] rfl
  have hDc := hD.sub (ws' := [(A 17, xc17 Z A M)]) [1] (by decide) rfl
  refine xk_p (va_runV (As := [.int 0]) (rest := []) ⟨hx, hb, hml, hown, hts⟩ (c_Control_takesOrders l dC dI Z A _ M 0) (cwV 1 hts (xw_V _ tw_421 tw_422 tw_423 tw_9 tw_424) rfl rfl rfl (by decide +kernel) ⟨Nat.le_of_ble_eq_true rfl, Nat.le_of_ble_eq_true rfl⟩) ⟨xB_blind, va_recv (q0 := 1) (ci := 0) hK hP rfl rfl, fun U hU hW => ⟨rfl, xB_at hPc hK hDc hq U hU hW⟩⟩ rfl rfl hl.1 rfl (lv_room (Nat.le_of_ble_eq_true rfl)) d_U_start_5 ⟨Nat.le_of_ble_eq_true rfl, Nat.le_of_ble_eq_true rfl⟩) ?_
  refine lv_topi (fun z1 hz1 => ?_)
  refine lv_if_eq (tgt := 31) hx hb d_U_start_8 rfl (fun h2 => ?_) (fun h2 => ?_)
  · exact absurd hT (by rw [T_U_start, ← hz1, T_U_start_k1, if_pos h2]; exact (by decide : ¬ (2 : Nat) = 0))
  · refine lv_aload_n hx hb d_U_start_11 rfl (lv_at hl 0 rfl) ?_
    refine va_get (D := (dC, dI)) (ci := 9) (v := .ref (A 6)) (C := "CentrifugeUnit") (T := xF9) (N := 7) hx hb htt xin9 hown hK hP 0 rfl rfl 1 (by decide) (htt _ tw_284) (fun _ h9 => h9) rfl d_U_start_12 ?_
    refine va_get (D := (dC, dI)) (ci := 3) (v := .int (M.1 1)) (C := "CentrifugeUnit$Program") (T := xF3) (N := 4) hx hb htt xin3 hown hK hP 2 rfl rfl 3 (by decide) (htt _ tw_68) (fun _ h9 => h9) rfl d_U_start_15 ?_
    refine lv_if_eq (tgt := 31) hx hb d_U_start_18 rfl (fun h3 => ?_) (fun h3 => ?_)
    · exact absurd hT (by rw [T_U_start, ← hz1, T_U_start_k1, if_neg h2, if_pos h3]; exact (by decide : ¬ (2 : Nat) = 0))
    · refine lv_aload_n hx hb d_U_start_21 rfl (lv_at hl 0 rfl) ?_
      refine va_get (D := (dC, dI)) (ci := 9) (v := .ref (A 12)) (C := "CentrifugeUnit") (T := xF9) (N := 7) hx hb htt xin9 hown hK hP 0 rfl rfl 4 (by decide) (htt _ tw_287) (fun _ h9 => h9) rfl d_U_start_22 ?_
      have hPc := hP.sub (ws' := [(A 12, xc12 Z A M)]) [3] rfl
      have hDc := hD.sub (ws' := [(A 12, xc12 Z A M)]) [3] (by decide) rfl
      refine xk_p (va_runV (As := []) (rest := []) ⟨hx, hb, hml, hown, hts⟩ (c_Lid_locked l dC dI Z A _ M) (cwV 0 hts (xw_V _ tw_485 tw_486 tw_487 tw_7 tw_488) rfl rfl rfl (by decide +kernel) ⟨Nat.le_of_ble_eq_true rfl, Nat.le_of_ble_eq_true rfl⟩) ⟨xB_blind, va_recv (q0 := 3) (ci := 1) hK hP rfl rfl, fun U hU hW => ⟨rfl, xB_at hPc hK hDc hq U hU hW⟩⟩ rfl rfl hl.1 rfl (lv_room (Nat.le_of_ble_eq_true rfl)) d_U_start_25 ⟨Nat.le_of_ble_eq_true rfl, Nat.le_of_ble_eq_true rfl⟩) ?_
      refine lv_topi (fun z4 hz4 => ?_)
      refine lv_if_ne (tgt := 41) hx hb d_U_start_28 rfl (fun h5 => ?_) (fun h5 => ?_)
      · refine lv_aload_n hx hb d_U_start_41 rfl (lv_at hl 0 rfl) ?_
        refine va_get (D := (dC, dI)) (ci := 9) (v := .ref (A 17)) (C := "CentrifugeUnit") (T := xF9) (N := 7) hx hb htt xin9 hown hK hP 0 rfl rfl 6 (by decide) (htt _ tw_289) (fun _ h9 => h9) rfl d_U_start_42 ?_
        have hPc := hP.sub (ws' := [(A 17, xc17 Z A M), (A 19, xc19 Z A M)]) [1, 4] rfl
        have hDc := hD.sub (ws' := [(A 17, xc17 Z A M), (A 19, xc19 Z A M)]) [1, 4] (by decide) rfl
        refine xk_v (wc := [(A 17, xc17 Z A M), (A 19, xc19 Z A M)]) (wr := [(A 0, .inr (9, [.ref (A 1), .ref (A 6), .ref (A 10), .ref (A 11), .ref (A 12), .ref (A 13), .ref (A 17)])), (A 6, .inr (3, [.ref (A 7), .ref (A 8), .ref (A 9), .int (M.1 1)])), (A 12, .inr (1, [.int (M.1 8), .int (M.1 9), .int (M.1 10)]))]) (va_runV (As := []) (rest := []) ⟨hx, hb, hml, hown, hts⟩ (c_Control_beginRun l dC dI Z A _ M) (cwV 0 hts (xw_V _ tw_490 tw_491 tw_492 tw_9 tw_493) rfl rfl rfl (by decide +kernel) ⟨Nat.le_of_ble_eq_true rfl, Nat.le_of_ble_eq_true rfl⟩) ⟨xB_blind, va_recv (q0 := 1) (ci := 0) hK hP rfl rfl, fun U hU hW => ⟨rfl, xB_at hPc hK hDc hq U hU hW⟩⟩ rfl rfl hl.1 rfl (lv_room (Nat.le_of_ble_eq_true rfl)) d_U_start_45 ⟨Nat.le_of_ble_eq_true rfl, Nat.le_of_ble_eq_true rfl⟩) hP hD hS hA [1, 4] [0, 2, 3] rfl rfl (by decide) (by decide) (fun u6 H locs hu6 hP hD hS => ?_)
        have hP : va_P (dC, dI) xcl [(A 0, .inr (9, [.ref (A 1), .ref (A 6), .ref (A 10), .ref (A 11), .ref (A 12), .ref (A 13), .ref (A 17)])), (A 6, .inr (3, [.ref (A 7), .ref (A 8), .ref (A 9), .int (M.1 1)])), (A 12, .inr (1, [.int (M.1 8), .int (M.1 9), .int (M.1 10)])), (A 17, .inr (0, [.ref (A 1), .ref (A 6), .ref (A 11), .ref (A 12), .ref (A 13), .ref (A 18), .ref (A 19), .int (M.1 12), .int (M.1 13), .int (u6.2.2.2.2.2.2.2.2.2), .int (u6.2.2.2.2.2.2.2.2.1), .int (M.1 16), .int (M.1 17), .int (M.1 18)])), (A 19, .inr (6, [.long (u6.1), .long (u6.2.1), .int (u6.2.2.1), .int (u6.2.2.2.1), .int (u6.2.2.2.2.1), .int (u6.2.2.2.2.2.1), .int (u6.2.2.2.2.2.2.1), .int (u6.2.2.2.2.2.2.2.1)]))] H := hP
        have hD : va_D AA [(A 0, .inr (9, [.ref (A 1), .ref (A 6), .ref (A 10), .ref (A 11), .ref (A 12), .ref (A 13), .ref (A 17)])), (A 6, .inr (3, [.ref (A 7), .ref (A 8), .ref (A 9), .int (M.1 1)])), (A 12, .inr (1, [.int (M.1 8), .int (M.1 9), .int (M.1 10)])), (A 17, .inr (0, [.ref (A 1), .ref (A 6), .ref (A 11), .ref (A 12), .ref (A 13), .ref (A 18), .ref (A 19), .int (M.1 12), .int (M.1 13), .int (u6.2.2.2.2.2.2.2.2.2), .int (u6.2.2.2.2.2.2.2.2.1), .int (M.1 16), .int (M.1 17), .int (M.1 18)])), (A 19, .inr (6, [.long (u6.1), .long (u6.2.1), .int (u6.2.2.1), .int (u6.2.2.2.1), .int (u6.2.2.2.2.1), .int (u6.2.2.2.2.2.1), .int (u6.2.2.2.2.2.2.1), .int (u6.2.2.2.2.2.2.2.1)]))] := hD
        have hP9 := hP.sub (ws' := [(A 0, xc0 Z A (ap_U_start M ((u6.1), (u6.2.1), (u6.2.2.1), (u6.2.2.2.1), (u6.2.2.2.2.1), (u6.2.2.2.2.2.1), (u6.2.2.2.2.2.2.1), (u6.2.2.2.2.2.2.2.1), (u6.2.2.2.2.2.2.2.2.1), (u6.2.2.2.2.2.2.2.2.2)))), (A 17, xc17 Z A (ap_U_start M ((u6.1), (u6.2.1), (u6.2.2.1), (u6.2.2.2.1), (u6.2.2.2.2.1), (u6.2.2.2.2.2.1), (u6.2.2.2.2.2.2.1), (u6.2.2.2.2.2.2.2.1), (u6.2.2.2.2.2.2.2.2.1), (u6.2.2.2.2.2.2.2.2.2)))), (A 6, xc6 Z A (ap_U_start M ((u6.1), (u6.2.1), (u6.2.2.1), (u6.2.2.2.1), (u6.2.2.2.2.1), (u6.2.2.2.2.2.1), (u6.2.2.2.2.2.2.1), (u6.2.2.2.2.2.2.2.1), (u6.2.2.2.2.2.2.2.2.1), (u6.2.2.2.2.2.2.2.2.2)))), (A 12, xc12 Z A (ap_U_start M ((u6.1), (u6.2.1), (u6.2.2.1), (u6.2.2.2.1), (u6.2.2.2.2.1), (u6.2.2.2.2.2.1), (u6.2.2.2.2.2.2.1), (u6.2.2.2.2.2.2.2.1), (u6.2.2.2.2.2.2.2.2.1), (u6.2.2.2.2.2.2.2.2.2)))), (A 19, xc19 Z A (ap_U_start M ((u6.1), (u6.2.1), (u6.2.2.1), (u6.2.2.2.1), (u6.2.2.2.2.1), (u6.2.2.2.2.2.1), (u6.2.2.2.2.2.2.1), (u6.2.2.2.2.2.2.2.1), (u6.2.2.2.2.2.2.2.2.1), (u6.2.2.2.2.2.2.2.2.2))))]) [0, 3, 1, 2, 4] rfl
        have hD9 := hD.sub (ws' := [(A 0, xc0 Z A (ap_U_start M ((u6.1), (u6.2.1), (u6.2.2.1), (u6.2.2.2.1), (u6.2.2.2.2.1), (u6.2.2.2.2.2.1), (u6.2.2.2.2.2.2.1), (u6.2.2.2.2.2.2.2.1), (u6.2.2.2.2.2.2.2.2.1), (u6.2.2.2.2.2.2.2.2.2)))), (A 17, xc17 Z A (ap_U_start M ((u6.1), (u6.2.1), (u6.2.2.1), (u6.2.2.2.1), (u6.2.2.2.2.1), (u6.2.2.2.2.2.1), (u6.2.2.2.2.2.2.1), (u6.2.2.2.2.2.2.2.1), (u6.2.2.2.2.2.2.2.2.1), (u6.2.2.2.2.2.2.2.2.2)))), (A 6, xc6 Z A (ap_U_start M ((u6.1), (u6.2.1), (u6.2.2.1), (u6.2.2.2.1), (u6.2.2.2.2.1), (u6.2.2.2.2.2.1), (u6.2.2.2.2.2.2.1), (u6.2.2.2.2.2.2.2.1), (u6.2.2.2.2.2.2.2.2.1), (u6.2.2.2.2.2.2.2.2.2)))), (A 12, xc12 Z A (ap_U_start M ((u6.1), (u6.2.1), (u6.2.2.1), (u6.2.2.2.1), (u6.2.2.2.2.1), (u6.2.2.2.2.2.1), (u6.2.2.2.2.2.2.1), (u6.2.2.2.2.2.2.2.1), (u6.2.2.2.2.2.2.2.2.1), (u6.2.2.2.2.2.2.2.2.2)))), (A 19, xc19 Z A (ap_U_start M ((u6.1), (u6.2.1), (u6.2.2.1), (u6.2.2.2.1), (u6.2.2.2.2.1), (u6.2.2.2.2.2.1), (u6.2.2.2.2.2.2.1), (u6.2.2.2.2.2.2.2.1), (u6.2.2.2.2.2.2.2.2.1), (u6.2.2.2.2.2.2.2.2.2))))]) [0, 3, 1, 2, 4] (by decide) rfl
        exact W.vret hx hb hr (fun t ht hW => ⟨⟨((u6.1), (u6.2.1), (u6.2.2.1), (u6.2.2.2.1), (u6.2.2.2.2.1), (u6.2.2.2.2.2.1), (u6.2.2.2.2.2.2.1), (u6.2.2.2.2.2.2.2.1), (u6.2.2.2.2.2.2.2.2.1), (u6.2.2.2.2.2.2.2.2.2)), rfl, (by rw [F_U_start, ← hz1, F_U_start_k1, if_neg h2, if_neg h3, ← hz4, F_U_start_k2, if_neg h5, ← hu6, F_U_start_k3]), xE_at hP9 hK hD9 ht hW⟩, hS.F ht⟩) hS.2.2 d_U_start_48
      · exact absurd hT (by rw [T_U_start, ← hz1, T_U_start_k1, if_neg h2, if_neg h3, ← hz4, T_U_start_k2, if_pos h5]; exact (by decide : ¬ (2 : Nat) = 0))
abbrev bc_U_stop : ByteArray := prog_1_method_6_code
def y_U_stop : MethodName := ⟨"CentrifugeUnit", "stop", "()V"⟩
theorem d_U_stop_0 : decode bc_U_stop 0 = .ok (.aload_n 0, 1) := by decide +kernel
theorem d_U_stop_1 : decode bc_U_stop 1 = .ok (.getfield 56, 3) := by decide +kernel
theorem d_U_stop_4 : decode bc_U_stop 4 = .ok (.iconst 1, 1) := by decide +kernel
theorem d_U_stop_5 : decode bc_U_stop 5 = .ok (.invokevirtual 75, 3) := by decide +kernel
theorem d_U_stop_8 : decode bc_U_stop 8 = .ok (.ifCond .ne 13, 3) := by decide +kernel
theorem d_U_stop_11 : decode bc_U_stop 11 = .ok (.new 79, 3) := by decide +kernel
theorem d_U_stop_14 : decode bc_U_stop 14 = .ok (.dup, 1) := by decide +kernel
theorem d_U_stop_15 : decode bc_U_stop 15 = .ok (.ldc 123, 2) := by decide +kernel
theorem d_U_stop_17 : decode bc_U_stop 17 = .ok (.invokespecial 83, 3) := by decide +kernel
theorem d_U_stop_20 : decode bc_U_stop 20 = .ok (.athrow, 1) := by decide +kernel
def T_U_stop_k1 (M : XM) (z1 : Int32) : Nat := (if z1 = 0 then 2 else 0)
def T_U_stop (M : XM) : Nat := (T_U_stop_k1 M (F_Control_takesOrders M 1))
set_option maxHeartbeats 4000000 in
set_option maxRecDepth 100000 in
theorem t2_U_stop (l : Launch) (dC : Nat → ClassId) (dI : Nat → Nat → Nat) (Z : Nat → ClassId) (A : Nat → Nat) (sz : Nat) (M : XM) (htl : l.stackTraces = false) (hT : T_U_stop M = 2) : MetT l y_U_stop (.code y_U_stop bc_U_stop 1 none :: xw) ({ frames := 6, cells := 1, slots := 6, locals := 90 }) (va_Pc [.ref (A 0)] (xBs (dC, dI) xcl (xty Z) sz [(A 0, xc0 Z A M), (A 17, xc17 Z A M)])) xISE 1 6 := by
  refine MetT.ofW (cc := bc_U_stop) (maxL := 1) (ret := none) (by decide) rfl ?_
  intro p e s m args below meth c s₁ B hml hv
  obtain ⟨rfl, ⟨hsz, hP, hK, hD0, hq⟩, hs⟩ := hv
  have hx := B.exec
  have hb := B.bytes
  have hts := atoms_spec (ws := (.code y_U_stop bc_U_stop 1 none :: xw)) B.pre
  have htt : ∀ w ∈ xw, w.before _ s = true := fun w h => hts w (List.mem_cons_of_mem _ h)
  have hown : s.vm.findClass "CentrifugeUnit" = some m.cls := findClass_of_methodNamed B.named
  have hlocks := B.notSynchronized
  subst hsz
  have hD : va_D (fun _ => True) [(A 0, .inr (9, [.ref (A 1), .ref (A 6), .ref (A 10), .ref (A 11), .ref (A 12), .ref (A 13), .ref (A 17)])), (A 17, .inr (0, [.ref (A 1), .ref (A 6), .ref (A 11), .ref (A 12), .ref (A 13), .ref (A 18), .ref (A 19), .int (M.1 12), .int (M.1 13), .int (M.1 14), .int (M.1 15), .int (M.1 16), .int (M.1 17), .int (M.1 18)]))] := hD0
  have hP : va_P (dC, dI) xcl [(A 0, .inr (9, [.ref (A 1), .ref (A 6), .ref (A 10), .ref (A 11), .ref (A 12), .ref (A 13), .ref (A 17)])), (A 17, .inr (0, [.ref (A 1), .ref (A 6), .ref (A 11), .ref (A 12), .ref (A 13), .ref (A 18), .ref (A 19), .int (M.1 12), .int (M.1 13), .int (M.1 14), .int (M.1 15), .int (M.1 16), .int (M.1 17), .int (M.1 18)]))] s.heap := hP
  have hl := lv_entry ([.ref (A 0)]) (n := 1) (Nat.le_of_ble_eq_true rfl)
  rw [lg_entry_eq]
  generalize (lg_sl ([.ref (A 0)]) ++ List.replicate (1 - (lg_sl ([.ref (A 0)])).length) Slot.unset).toArray = ls at hl ⊢
  have hl : lv_has ls 1 [(0, .ref (A 0))] := hl
  refine lv_aload_n hx hb d_U_stop_0 rfl (lv_at hl 0 rfl) ?_
  refine va_get (D := (dC, dI)) (ci := 9) (v := .ref (A 17)) (C := "CentrifugeUnit") (T := xF9) (N := 7) hx hb htt xin9 hown hK hP 0 rfl rfl 6 (by decide) (htt _ tw_289) (fun _ h9 => h9) rfl d_U_stop_1 ?_
  refine lv_iconst (v := 1) hx hb d_U_stop_4 (by decide) ?_
  have hPc := hP.sub (ws' := [(A 17, xc17 Z A M)]) [1] rfl
  have hDc := hD.sub (ws' := [(A 17, xc17 Z A M)]) [1] (by decide) rfl
  refine xk_p (va_runV (As := [.int 1]) (rest := []) ⟨hx, hb, hml, hown, hts⟩ (c_Control_takesOrders l dC dI Z A _ M 1) (cwV 1 hts (xw_V _ tw_421 tw_422 tw_423 tw_9 tw_424) rfl rfl rfl (by decide +kernel) ⟨Nat.le_of_ble_eq_true rfl, Nat.le_of_ble_eq_true rfl⟩) ⟨xB_blind, va_recv (q0 := 1) (ci := 0) hK hP rfl rfl, fun U hU hW => ⟨rfl, xB_at hPc hK hDc hq U hU hW⟩⟩ rfl rfl hl.1 rfl (lv_room (Nat.le_of_ble_eq_true rfl)) d_U_stop_5 ⟨Nat.le_of_ble_eq_true rfl, Nat.le_of_ble_eq_true rfl⟩) ?_
  refine lv_topi (fun z1 hz1 => ?_)
  refine lv_if_ne (tgt := 21) hx hb d_U_stop_8 rfl (fun h2 => ?_) (fun h2 => ?_)
  · exact absurd hT (by rw [T_U_stop, ← hz1, T_U_stop_k1, if_neg h2]; exact (by decide : ¬ (0 : Nat) = 2))
  · obtain ⟨q9, hZ⟩ := hq.2.1 ("CentrifugeUnit", 123, "not running, or no power") (by decide +kernel)
    exact xt_throw (names := ["java/lang/RuntimeException", "java/lang/Exception"]) hx hb htl hown (htt _ tw_425) (htt _ tw_426) (htt _ tw_17) hZ (xo_all htt hq hs xo_2_83) (by decide) (by decide) d_U_stop_11 d_U_stop_14 d_U_stop_15 d_U_stop_17 d_U_stop_20 (B.noHandlers (hts _ List.mem_cons_self)) (hl.1.trans hml.symm) hlocks (by decide) (by decide) (by decide) (by decide)
theorem d_U_stop_21 : decode bc_U_stop 21 = .ok (.aload_n 0, 1) := by decide +kernel
theorem d_U_stop_22 : decode bc_U_stop 22 = .ok (.getfield 56, 3) := by decide +kernel
theorem d_U_stop_25 : decode bc_U_stop 25 = .ok (.bipush 11, 2) := by decide +kernel
theorem d_U_stop_27 : decode bc_U_stop 27 = .ok (.invokevirtual 125, 3) := by decide +kernel
theorem d_U_stop_30 : decode bc_U_stop 30 = .ok (.return_, 1) := by decide +kernel
abbrev ap_U_stop (M : XM) (u : (Int32 × Int32)) : XM := ((va_up (va_up M.1 14 (u.1)) 15 (u.2)), M.2)
def F_U_stop_k2 (M : XM) (z1 : Int32) (u3 : (Int32 × Int32)) : (Int32 × Int32) := ((u3.1), (u3.2))
def F_U_stop_k1 (M : XM) (z1 : Int32) : (Int32 × Int32) := (if z1 = 0 then ((M.1 14), (M.1 15)) else (F_U_stop_k2 M z1 (F_Control_beginStopping M 11)))
def F_U_stop (M : XM) : (Int32 × Int32) := (F_U_stop_k1 M (F_Control_takesOrders M 1))
set_option maxHeartbeats 4000000 in
set_option maxRecDepth 100000 in
theorem c_U_stop (l : Launch) (dC : Nat → ClassId) (dI : Nat → Nat → Nat) (Z : Nat → ClassId) (A : Nat → Nat) (sz : Nat) (M : XM) (hT : T_U_stop M = 0) : Met l y_U_stop (.code y_U_stop bc_U_stop 1 none :: xw) ({ frames := 1, cells := 0, slots := 0, locals := 21 }) (va_Pc [.ref (A 0)] (xB (dC, dI) xcl (xty Z) sz [(A 0, xc0 Z A M), (A 17, xc17 Z A M)])) (va_Qv (fun u : (Int32 × Int32) => u = F_U_stop M) (fun u => xE (dC, dI) xcl (xty Z) (va_A [(A 0, xc0 Z A M), (A 17, xc17 Z A M)] sz) [(A 0, xc0 Z A (ap_U_stop M u)), (A 17, xc17 Z A (ap_U_stop M u))]) (va_A [(A 0, xc0 Z A M), (A 17, xc17 Z A M)] sz)) 0 0 (va_A [(A 0, xc0 Z A M), (A 17, xc17 Z A M)] sz) := by
  refine Met.ofW (cc := bc_U_stop) (maxL := 1) (ret := none) (by decide) rfl ?_
  intro p e s m args below meth c s₁ B hml hv
  obtain ⟨rfl, hsz, hP, hK, hD0, hq⟩ := hv
  have hx := B.exec
  have hb := B.bytes
  have hr := B.returns
  have hts := atoms_spec (ws := (.code y_U_stop bc_U_stop 1 none :: xw)) B.pre
  have htt : ∀ w ∈ xw, w.before _ s = true := fun w h => hts w (List.mem_cons_of_mem _ h)
  have hown : s.vm.findClass "CentrifugeUnit" = some m.cls := findClass_of_methodNamed B.named
  have hlocks := B.notSynchronized
  subst hsz
  have hD := hD0.self (sz := s.heap.size)
  generalize hAe : va_A [(A 0, xc0 Z A M), (A 17, xc17 Z A M)] s.heap.size = AA at hD ⊢
  have hA : ∀ q : Nat, s.heap.size ≤ q → AA q := fun q h => by rw [← hAe]; exact Or.inr h
  have hS : va_S AA s.heap s.heap [] := va_S.rf
  have hP : va_P (dC, dI) xcl [(A 0, .inr (9, [.ref (A 1), .ref (A 6), .ref (A 10), .ref (A 11), .ref (A 12), .ref (A 13), .ref (A 17)])), (A 17, .inr (0, [.ref (A 1), .ref (A 6), .ref (A 11), .ref (A 12), .ref (A 13), .ref (A 18), .ref (A 19), .int (M.1 12), .int (M.1 13), .int (M.1 14), .int (M.1 15), .int (M.1 16), .int (M.1 17), .int (M.1 18)]))] s.heap := hP
  have hD : va_D AA [(A 0, .inr (9, [.ref (A 1), .ref (A 6), .ref (A 10), .ref (A 11), .ref (A 12), .ref (A 13), .ref (A 17)])), (A 17, .inr (0, [.ref (A 1), .ref (A 6), .ref (A 11), .ref (A 12), .ref (A 13), .ref (A 18), .ref (A 19), .int (M.1 12), .int (M.1 13), .int (M.1 14), .int (M.1 15), .int (M.1 16), .int (M.1 17), .int (M.1 18)]))] := hD
  have hl := lv_entry ([.ref (A 0)]) (n := 1) (Nat.le_of_ble_eq_true rfl)
  rw [lg_entry_eq]
  generalize (lg_sl ([.ref (A 0)]) ++ List.replicate (1 - (lg_sl ([.ref (A 0)])).length) Slot.unset).toArray = ls at hl ⊢
  have hl : lv_has ls 1 [(0, .ref (A 0))] := hl
  refine lv_aload_n hx hb d_U_stop_0 rfl (lv_at hl 0 rfl) ?_
  refine va_get (D := (dC, dI)) (ci := 9) (v := .ref (A 17)) (C := "CentrifugeUnit") (T := xF9) (N := 7) hx hb htt xin9 hown hK hP 0 rfl rfl 6 (by decide) (htt _ tw_289) (fun _ h9 => h9) rfl d_U_stop_1 ?_
  refine lv_iconst (v := 1) hx hb d_U_stop_4 (by decide) ?_
  have hPc := hP.sub (ws' := [(A 17, xc17 Z A M)]) [1] rfl
  have hDc := hD.sub (ws' := [(A 17, xc17 Z A M)]) [1] (by decide) rfl
  refine xk_p (va_runV (As := [.int 1]) (rest := []) ⟨hx, hb, hml, hown, hts⟩ (c_Control_takesOrders l dC dI Z A _ M 1) (cwV 1 hts (xw_V _ tw_421 tw_422 tw_423 tw_9 tw_424) rfl rfl rfl (by decide +kernel) ⟨Nat.le_of_ble_eq_true rfl, Nat.le_of_ble_eq_true rfl⟩) ⟨xB_blind, va_recv (q0 := 1) (ci := 0) hK hP rfl rfl, fun U hU hW => ⟨rfl, xB_at hPc hK hDc hq U hU hW⟩⟩ rfl rfl hl.1 rfl (lv_room (Nat.le_of_ble_eq_true rfl)) d_U_stop_5 ⟨Nat.le_of_ble_eq_true rfl, Nat.le_of_ble_eq_true rfl⟩) ?_
  refine lv_topi (fun z1 hz1 => ?_)
  refine lv_if_ne (tgt := 21) hx hb d_U_stop_8 rfl (fun h2 => ?_) (fun h2 => ?_)
  · refine lv_aload_n hx hb d_U_stop_21 rfl (lv_at hl 0 rfl) ?_
    refine va_get (D := (dC, dI)) (ci := 9) (v := .ref (A 17)) (C := "CentrifugeUnit") (T := xF9) (N := 7) hx hb htt xin9 hown hK hP 0 rfl rfl 6 (by decide) (htt _ tw_289) (fun _ h9 => h9) rfl d_U_stop_22 ?_
    refine lv_bipush (v := 11) hx hb d_U_stop_25 (by decide) ?_
    have hPc := hP.sub (ws' := [(A 17, xc17 Z A M)]) [1] rfl
    have hDc := hD.sub (ws' := [(A 17, xc17 Z A M)]) [1] (by decide) rfl
    refine xk_v (wc := [(A 17, xc17 Z A M)]) (wr := [(A 0, .inr (9, [.ref (A 1), .ref (A 6), .ref (A 10), .ref (A 11), .ref (A 12), .ref (A 13), .ref (A 17)]))]) (va_runV (As := [.int 11]) (rest := []) ⟨hx, hb, hml, hown, hts⟩ (c_Control_beginStopping l dC dI Z A _ M 11) (cwV 1 hts (xw_V _ tw_506 tw_507 tw_508 tw_9 tw_509) rfl rfl rfl (by decide +kernel) ⟨Nat.le_of_ble_eq_true rfl, Nat.le_of_ble_eq_true rfl⟩) ⟨xB_blind, va_recv (q0 := 1) (ci := 0) hK hP rfl rfl, fun U hU hW => ⟨rfl, xB_at hPc hK hDc hq U hU hW⟩⟩ rfl rfl hl.1 rfl (lv_room (Nat.le_of_ble_eq_true rfl)) d_U_stop_27 ⟨Nat.le_of_ble_eq_true rfl, Nat.le_of_ble_eq_true rfl⟩) hP hD hS hA [1] [0] rfl rfl (by decide) (by decide) (fun u3 H locs hu3 hP hD hS => ?_)
    have hP : va_P (dC, dI) xcl [(A 0, .inr (9, [.ref (A 1), .ref (A 6), .ref (A 10), .ref (A 11), .ref (A 12), .ref (A 13), .ref (A 17)])), (A 17, .inr (0, [.ref (A 1), .ref (A 6), .ref (A 11), .ref (A 12), .ref (A 13), .ref (A 18), .ref (A 19), .int (M.1 12), .int (M.1 13), .int (u3.1), .int (u3.2), .int (M.1 16), .int (M.1 17), .int (M.1 18)]))] H := hP
    have hD : va_D AA [(A 0, .inr (9, [.ref (A 1), .ref (A 6), .ref (A 10), .ref (A 11), .ref (A 12), .ref (A 13), .ref (A 17)])), (A 17, .inr (0, [.ref (A 1), .ref (A 6), .ref (A 11), .ref (A 12), .ref (A 13), .ref (A 18), .ref (A 19), .int (M.1 12), .int (M.1 13), .int (u3.1), .int (u3.2), .int (M.1 16), .int (M.1 17), .int (M.1 18)]))] := hD
    have hP9 := hP.sub (ws' := [(A 0, xc0 Z A (ap_U_stop M ((u3.1), (u3.2)))), (A 17, xc17 Z A (ap_U_stop M ((u3.1), (u3.2))))]) [0, 1] rfl
    have hD9 := hD.sub (ws' := [(A 0, xc0 Z A (ap_U_stop M ((u3.1), (u3.2)))), (A 17, xc17 Z A (ap_U_stop M ((u3.1), (u3.2))))]) [0, 1] (by decide) rfl
    exact W.vret hx hb hr (fun t ht hW => ⟨⟨((u3.1), (u3.2)), rfl, (by rw [F_U_stop, ← hz1, F_U_stop_k1, if_neg h2, ← hu3, F_U_stop_k2]), xE_at hP9 hK hD9 ht hW⟩, hS.F ht⟩) hS.2.2 d_U_stop_30
  · exact absurd hT (by rw [T_U_stop, ← hz1, T_U_stop_k1, if_pos h2]; exact (by decide : ¬ (2 : Nat) = 0))
abbrev bc_U_open : ByteArray := prog_1_method_7_code
def y_U_open : MethodName := ⟨"CentrifugeUnit", "open", "()V"⟩
theorem d_U_open_0 : decode bc_U_open 0 = .ok (.aload_n 0, 1) := by decide +kernel
theorem d_U_open_1 : decode bc_U_open 1 = .ok (.getfield 56, 3) := by decide +kernel
theorem d_U_open_4 : decode bc_U_open 4 = .ok (.iconst 0, 1) := by decide +kernel
theorem d_U_open_5 : decode bc_U_open 5 = .ok (.invokevirtual 75, 3) := by decide +kernel
theorem d_U_open_8 : decode bc_U_open 8 = .ok (.ifCond .eq 16, 3) := by decide +kernel
theorem d_U_open_11 : decode bc_U_open 11 = .ok (.aload_n 0, 1) := by decide +kernel
theorem d_U_open_12 : decode bc_U_open 12 = .ok (.getfield 56, 3) := by decide +kernel
theorem d_U_open_15 : decode bc_U_open 15 = .ok (.getfield 129, 3) := by decide +kernel
theorem d_U_open_18 : decode bc_U_open 18 = .ok (.invokevirtual 133, 3) := by decide +kernel
theorem d_U_open_21 : decode bc_U_open 21 = .ok (.ifCond .ne 13, 3) := by decide +kernel
theorem d_U_open_24 : decode bc_U_open 24 = .ok (.new 79, 3) := by decide +kernel
theorem d_U_open_27 : decode bc_U_open 27 = .ok (.dup, 1) := by decide +kernel
theorem d_U_open_28 : decode bc_U_open 28 = .ok (.ldc 138, 2) := by decide +kernel
theorem d_U_open_30 : decode bc_U_open 30 = .ok (.invokespecial 83, 3) := by decide +kernel
theorem d_U_open_33 : decode bc_U_open 33 = .ok (.athrow, 1) := by decide +kernel
def T_U_open_k2 (M : XM) (z1 : Int32) (z3 : Int32) : Nat := (if z3 = 0 then 2 else 0)
def T_U_open_k1 (M : XM) (z1 : Int32) : Nat := (if z1 = 0 then 2 else (T_U_open_k2 M z1 (F_Watch_atRest M)))
def T_U_open (M : XM) : Nat := (T_U_open_k1 M (F_Control_takesOrders M 0))
set_option maxHeartbeats 4000000 in
set_option maxRecDepth 100000 in
theorem t2_U_open (l : Launch) (dC : Nat → ClassId) (dI : Nat → Nat → Nat) (Z : Nat → ClassId) (A : Nat → Nat) (sz : Nat) (M : XM) (htl : l.stackTraces = false) (hT : T_U_open M = 2) : MetT l y_U_open (.code y_U_open bc_U_open 1 none :: xw) ({ frames := 6, cells := 1, slots := 6, locals := 90 }) (va_Pc [.ref (A 0)] (xBs (dC, dI) xcl (xty Z) sz [(A 0, xc0 Z A M), (A 17, xc17 Z A M), (A 18, xc18 Z A M), (A 12, xc12 Z A M)])) xISE 1 6 := by
  refine MetT.ofW (cc := bc_U_open) (maxL := 1) (ret := none) (by decide) rfl ?_
  intro p e s m args below meth c s₁ B hml hv
  obtain ⟨rfl, ⟨hsz, hP, hK, hD0, hq⟩, hs⟩ := hv
  have hx := B.exec
  have hb := B.bytes
  have hts := atoms_spec (ws := (.code y_U_open bc_U_open 1 none :: xw)) B.pre
  have htt : ∀ w ∈ xw, w.before _ s = true := fun w h => hts w (List.mem_cons_of_mem _ h)
  have hown : s.vm.findClass "CentrifugeUnit" = some m.cls := findClass_of_methodNamed B.named
  have hlocks := B.notSynchronized
  subst hsz
  have hD : va_D (fun _ => True) [(A 0, .inr (9, [.ref (A 1), .ref (A 6), .ref (A 10), .ref (A 11), .ref (A 12), .ref (A 13), .ref (A 17)])), (A 17, .inr (0, [.ref (A 1), .ref (A 6), .ref (A 11), .ref (A 12), .ref (A 13), .ref (A 18), .ref (A 19), .int (M.1 12), .int (M.1 13), .int (M.1 14), .int (M.1 15), .int (M.1 16), .int (M.1 17), .int (M.1 18)])), (A 18, .inr (8, [.int (M.1 19), .int (M.1 20), .int (M.1 21), .int (M.1 22)])), (A 12, .inr (1, [.int (M.1 8), .int (M.1 9), .int (M.1 10)]))] := hD0
  have hP : va_P (dC, dI) xcl [(A 0, .inr (9, [.ref (A 1), .ref (A 6), .ref (A 10), .ref (A 11), .ref (A 12), .ref (A 13), .ref (A 17)])), (A 17, .inr (0, [.ref (A 1), .ref (A 6), .ref (A 11), .ref (A 12), .ref (A 13), .ref (A 18), .ref (A 19), .int (M.1 12), .int (M.1 13), .int (M.1 14), .int (M.1 15), .int (M.1 16), .int (M.1 17), .int (M.1 18)])), (A 18, .inr (8, [.int (M.1 19), .int (M.1 20), .int (M.1 21), .int (M.1 22)])), (A 12, .inr (1, [.int (M.1 8), .int (M.1 9), .int (M.1 10)]))] s.heap := hP
  have hl := lv_entry ([.ref (A 0)]) (n := 1) (Nat.le_of_ble_eq_true rfl)
  rw [lg_entry_eq]
  generalize (lg_sl ([.ref (A 0)]) ++ List.replicate (1 - (lg_sl ([.ref (A 0)])).length) Slot.unset).toArray = ls at hl ⊢
  have hl : lv_has ls 1 [(0, .ref (A 0))] := hl
  refine lv_aload_n hx hb d_U_open_0 rfl (lv_at hl 0 rfl) ?_
  refine va_get (D := (dC, dI)) (ci := 9) (v := .ref (A 17)) (C := "CentrifugeUnit") (T := xF9) (N := 7) hx hb htt xin9 hown hK hP 0 rfl rfl 6 (by decide) (htt _ tw_289) (fun _ h9 => h9) rfl d_U_open_1 ?_
  refine lv_iconst (v := 0) hx hb d_U_open_4 (by decide) ?_
  have hPc := hP.sub (ws' := [(A 17, xc17 Z A M)]) [1] rfl
  have hDc := hD.sub (ws' := [(A 17, xc17 Z A M)]) [1] (by decide) rfl
  refine xk_p (va_runV (As := [.int 0]) (rest := []) ⟨hx, hb, hml, hown, hts⟩ (c_Control_takesOrders l dC dI Z A _ M 0) (cwV 1 hts (xw_V _ tw_421 tw_422 tw_423 tw_9 tw_424) rfl rfl rfl (by decide +kernel) ⟨Nat.le_of_ble_eq_true rfl, Nat.le_of_ble_eq_true rfl⟩) ⟨xB_blind, va_recv (q0 := 1) (ci := 0) hK hP rfl rfl, fun U hU hW => ⟨rfl, xB_at hPc hK hDc hq U hU hW⟩⟩ rfl rfl hl.1 rfl (lv_room (Nat.le_of_ble_eq_true rfl)) d_U_open_5 ⟨Nat.le_of_ble_eq_true rfl, Nat.le_of_ble_eq_true rfl⟩) ?_
  refine lv_topi (fun z1 hz1 => ?_)
  refine lv_if_eq (tgt := 24) hx hb d_U_open_8 rfl (fun h2 => ?_) (fun h2 => ?_)
  · obtain ⟨q9, hZ⟩ := hq.2.1 ("CentrifugeUnit", 138, "not idle, no power, or not at rest") (by decide +kernel)
    exact xt_throw (names := ["java/lang/RuntimeException", "java/lang/Exception"]) hx hb htl hown (htt _ tw_425) (htt _ tw_426) (htt _ tw_17) hZ (xo_all htt hq hs xo_2_83) (by decide) (by decide) d_U_open_24 d_U_open_27 d_U_open_28 d_U_open_30 d_U_open_33 (B.noHandlers (hts _ List.mem_cons_self)) (hl.1.trans hml.symm) hlocks (by decide) (by decide) (by decide) (by decide)
  · refine lv_aload_n hx hb d_U_open_11 rfl (lv_at hl 0 rfl) ?_
    refine va_get (D := (dC, dI)) (ci := 9) (v := .ref (A 17)) (C := "CentrifugeUnit") (T := xF9) (N := 7) hx hb htt xin9 hown hK hP 0 rfl rfl 6 (by decide) (htt _ tw_289) (fun _ h9 => h9) rfl d_U_open_12 ?_
    refine va_get (D := (dC, dI)) (ci := 0) (v := .ref (A 18)) (C := "CentrifugeUnit$Control") (T := xF0) (N := 14) hx hb htt xin0 hown hK hP 1 rfl rfl 5 (by decide) (htt _ tw_237) (fun _ h9 => h9) rfl d_U_open_15 ?_
    have hPc := hP.sub (ws' := [(A 18, xc18 Z A M)]) [2] rfl
    have hDc := hD.sub (ws' := [(A 18, xc18 Z A M)]) [2] (by decide) rfl
    refine xk_p (va_runV (As := []) (rest := []) ⟨hx, hb, hml, hown, hts⟩ (c_Watch_atRest l dC dI Z A _ M) (cwV 0 hts (xw_V _ tw_517 tw_518 tw_519 tw_10 tw_520) rfl rfl rfl (by decide +kernel) ⟨Nat.le_of_ble_eq_true rfl, Nat.le_of_ble_eq_true rfl⟩) ⟨xB_blind, va_recv (q0 := 2) (ci := 8) hK hP rfl rfl, fun U hU hW => ⟨rfl, xB_at hPc hK hDc hq U hU hW⟩⟩ rfl rfl hl.1 rfl (lv_room (Nat.le_of_ble_eq_true rfl)) d_U_open_18 ⟨Nat.le_of_ble_eq_true rfl, Nat.le_of_ble_eq_true rfl⟩) ?_
    refine lv_topi (fun z3 hz3 => ?_)
    refine lv_if_ne (tgt := 34) hx hb d_U_open_21 rfl (fun h4 => ?_) (fun h4 => ?_)
    · exact absurd hT (by rw [T_U_open, ← hz1, T_U_open_k1, if_neg h2, ← hz3, T_U_open_k2, if_neg h4]; exact (by decide : ¬ (0 : Nat) = 2))
    · obtain ⟨q9, hZ⟩ := hq.2.1 ("CentrifugeUnit", 138, "not idle, no power, or not at rest") (by decide +kernel)
      exact xt_throw (names := ["java/lang/RuntimeException", "java/lang/Exception"]) hx hb htl hown (htt _ tw_425) (htt _ tw_426) (htt _ tw_17) hZ (xo_all htt hq hs xo_2_83) (by decide) (by decide) d_U_open_24 d_U_open_27 d_U_open_28 d_U_open_30 d_U_open_33 (B.noHandlers (hts _ List.mem_cons_self)) (hl.1.trans hml.symm) hlocks (by decide) (by decide) (by decide) (by decide)
theorem d_U_open_34 : decode bc_U_open 34 = .ok (.aload_n 0, 1) := by decide +kernel
theorem d_U_open_35 : decode bc_U_open 35 = .ok (.getfield 40, 3) := by decide +kernel
theorem d_U_open_38 : decode bc_U_open 38 = .ok (.invokevirtual 140, 3) := by decide +kernel
theorem d_U_open_41 : decode bc_U_open 41 = .ok (.return_, 1) := by decide +kernel
abbrev ap_U_open (M : XM) (u : Int32) : XM := ((va_up M.1 10 u), M.2)
def F_U_open_k3 (M : XM) (z1 : Int32) (z3 : Int32) (u5 : Int32) : (Int32) := u5
def F_U_open_k2 (M : XM) (z1 : Int32) (z3 : Int32) : (Int32) := (if z3 = 0 then (M.1 10) else (F_U_open_k3 M z1 z3 (F_Lid_askToOpen M)))
def F_U_open_k1 (M : XM) (z1 : Int32) : (Int32) := (if z1 = 0 then (M.1 10) else (F_U_open_k2 M z1 (F_Watch_atRest M)))
def F_U_open (M : XM) : (Int32) := (F_U_open_k1 M (F_Control_takesOrders M 0))
set_option maxHeartbeats 4000000 in
set_option maxRecDepth 100000 in
theorem c_U_open (l : Launch) (dC : Nat → ClassId) (dI : Nat → Nat → Nat) (Z : Nat → ClassId) (A : Nat → Nat) (sz : Nat) (M : XM) (hT : T_U_open M = 0) : Met l y_U_open (.code y_U_open bc_U_open 1 none :: xw) ({ frames := 1, cells := 0, slots := 0, locals := 21 }) (va_Pc [.ref (A 0)] (xB (dC, dI) xcl (xty Z) sz [(A 0, xc0 Z A M), (A 17, xc17 Z A M), (A 18, xc18 Z A M), (A 12, xc12 Z A M)])) (va_Qv (fun u : Int32 => u = F_U_open M) (fun u => xE (dC, dI) xcl (xty Z) (va_A [(A 0, xc0 Z A M), (A 17, xc17 Z A M), (A 18, xc18 Z A M), (A 12, xc12 Z A M)] sz) [(A 0, xc0 Z A (ap_U_open M u)), (A 17, xc17 Z A (ap_U_open M u)), (A 18, xc18 Z A (ap_U_open M u)), (A 12, xc12 Z A (ap_U_open M u))]) (va_A [(A 0, xc0 Z A M), (A 17, xc17 Z A M), (A 18, xc18 Z A M), (A 12, xc12 Z A M)] sz)) 0 0 (va_A [(A 0, xc0 Z A M), (A 17, xc17 Z A M), (A 18, xc18 Z A M), (A 12, xc12 Z A M)] sz) := by
  refine Met.ofW (cc := bc_U_open) (maxL := 1) (ret := none) (by decide) rfl ?_
  intro p e s m args below meth c s₁ B hml hv
  obtain ⟨rfl, hsz, hP, hK, hD0, hq⟩ := hv
  have hx := B.exec
  have hb := B.bytes
  have hr := B.returns
  have hts := atoms_spec (ws := (.code y_U_open bc_U_open 1 none :: xw)) B.pre
  have htt : ∀ w ∈ xw, w.before _ s = true := fun w h => hts w (List.mem_cons_of_mem _ h)
  have hown : s.vm.findClass "CentrifugeUnit" = some m.cls := findClass_of_methodNamed B.named
  have hlocks := B.notSynchronized
  subst hsz
  have hD := hD0.self (sz := s.heap.size)
  generalize hAe : va_A [(A 0, xc0 Z A M), (A 17, xc17 Z A M), (A 18, xc18 Z A M), (A 12, xc12 Z A M)] s.heap.size = AA at hD ⊢
  have hA : ∀ q : Nat, s.heap.size ≤ q → AA q := fun q h => by rw [← hAe]; exact Or.inr h
  have hS : va_S AA s.heap s.heap [] := va_S.rf
  have hP : va_P (dC, dI) xcl [(A 0, .inr (9, [.ref (A 1), .ref (A 6), .ref (A 10), .ref (A 11), .ref (A 12), .ref (A 13), .ref (A 17)])), (A 17, .inr (0, [.ref (A 1), .ref (A 6), .ref (A 11), .ref (A 12), .ref (A 13), .ref (A 18), .ref (A 19), .int (M.1 12), .int (M.1 13), .int (M.1 14), .int (M.1 15), .int (M.1 16), .int (M.1 17), .int (M.1 18)])), (A 18, .inr (8, [.int (M.1 19), .int (M.1 20), .int (M.1 21), .int (M.1 22)])), (A 12, .inr (1, [.int (M.1 8), .int (M.1 9), .int (M.1 10)]))] s.heap := hP
  have hD : va_D AA [(A 0, .inr (9, [.ref (A 1), .ref (A 6), .ref (A 10), .ref (A 11), .ref (A 12), .ref (A 13), .ref (A 17)])), (A 17, .inr (0, [.ref (A 1), .ref (A 6), .ref (A 11), .ref (A 12), .ref (A 13), .ref (A 18), .ref (A 19), .int (M.1 12), .int (M.1 13), .int (M.1 14), .int (M.1 15), .int (M.1 16), .int (M.1 17), .int (M.1 18)])), (A 18, .inr (8, [.int (M.1 19), .int (M.1 20), .int (M.1 21), .int (M.1 22)])), (A 12, .inr (1, [.int (M.1 8), .int (M.1 9), .int (M.1 10)]))] := hD
  have hl := lv_entry ([.ref (A 0)]) (n := 1) (Nat.le_of_ble_eq_true rfl)
  rw [lg_entry_eq]
  generalize (lg_sl ([.ref (A 0)]) ++ List.replicate (1 - (lg_sl ([.ref (A 0)])).length) Slot.unset).toArray = ls at hl ⊢
  have hl : lv_has ls 1 [(0, .ref (A 0))] := hl
  refine lv_aload_n hx hb d_U_open_0 rfl (lv_at hl 0 rfl) ?_
  refine va_get (D := (dC, dI)) (ci := 9) (v := .ref (A 17)) (C := "CentrifugeUnit") (T := xF9) (N := 7) hx hb htt xin9 hown hK hP 0 rfl rfl 6 (by decide) (htt _ tw_289) (fun _ h9 => h9) rfl d_U_open_1 ?_
  refine lv_iconst (v := 0) hx hb d_U_open_4 (by decide) ?_
  have hPc := hP.sub (ws' := [(A 17, xc17 Z A M)]) [1] rfl
  have hDc := hD.sub (ws' := [(A 17, xc17 Z A M)]) [1] (by decide) rfl
  refine xk_p (va_runV (As := [.int 0]) (rest := []) ⟨hx, hb, hml, hown, hts⟩ (c_Control_takesOrders l dC dI Z A _ M 0) (cwV 1 hts (xw_V _ tw_421 tw_422 tw_423 tw_9 tw_424) rfl rfl rfl (by decide +kernel) ⟨Nat.le_of_ble_eq_true rfl, Nat.le_of_ble_eq_true rfl⟩) ⟨xB_blind, va_recv (q0 := 1) (ci := 0) hK hP rfl rfl, fun U hU hW => ⟨rfl, xB_at hPc hK hDc hq U hU hW⟩⟩ rfl rfl hl.1 rfl (lv_room (Nat.le_of_ble_eq_true rfl)) d_U_open_5 ⟨Nat.le_of_ble_eq_true rfl, Nat.le_of_ble_eq_true rfl⟩) ?_
  refine lv_topi (fun z1 hz1 => ?_)
  refine lv_if_eq (tgt := 24) hx hb d_U_open_8 rfl (fun h2 => ?_) (fun h2 => ?_)
  · exact absurd hT (by rw [T_U_open, ← hz1, T_U_open_k1, if_pos h2]; exact (by decide : ¬ (2 : Nat) = 0))
  · refine lv_aload_n hx hb d_U_open_11 rfl (lv_at hl 0 rfl) ?_
    refine va_get (D := (dC, dI)) (ci := 9) (v := .ref (A 17)) (C := "CentrifugeUnit") (T := xF9) (N := 7) hx hb htt xin9 hown hK hP 0 rfl rfl 6 (by decide) (htt _ tw_289) (fun _ h9 => h9) rfl d_U_open_12 ?_
    refine va_get (D := (dC, dI)) (ci := 0) (v := .ref (A 18)) (C := "CentrifugeUnit$Control") (T := xF0) (N := 14) hx hb htt xin0 hown hK hP 1 rfl rfl 5 (by decide) (htt _ tw_237) (fun _ h9 => h9) rfl d_U_open_15 ?_
    have hPc := hP.sub (ws' := [(A 18, xc18 Z A M)]) [2] rfl
    have hDc := hD.sub (ws' := [(A 18, xc18 Z A M)]) [2] (by decide) rfl
    refine xk_p (va_runV (As := []) (rest := []) ⟨hx, hb, hml, hown, hts⟩ (c_Watch_atRest l dC dI Z A _ M) (cwV 0 hts (xw_V _ tw_517 tw_518 tw_519 tw_10 tw_520) rfl rfl rfl (by decide +kernel) ⟨Nat.le_of_ble_eq_true rfl, Nat.le_of_ble_eq_true rfl⟩) ⟨xB_blind, va_recv (q0 := 2) (ci := 8) hK hP rfl rfl, fun U hU hW => ⟨rfl, xB_at hPc hK hDc hq U hU hW⟩⟩ rfl rfl hl.1 rfl (lv_room (Nat.le_of_ble_eq_true rfl)) d_U_open_18 ⟨Nat.le_of_ble_eq_true rfl, Nat.le_of_ble_eq_true rfl⟩) ?_
    refine lv_topi (fun z3 hz3 => ?_)
    refine lv_if_ne (tgt := 34) hx hb d_U_open_21 rfl (fun h4 => ?_) (fun h4 => ?_)
    · refine lv_aload_n hx hb d_U_open_34 rfl (lv_at hl 0 rfl) ?_
      refine va_get (D := (dC, dI)) (ci := 9) (v := .ref (A 12)) (C := "CentrifugeUnit") (T := xF9) (N := 7) hx hb htt xin9 hown hK hP 0 rfl rfl 4 (by decide) (htt _ tw_287) (fun _ h9 => h9) rfl d_U_open_35 ?_
      have hPc := hP.sub (ws' := [(A 12, xc12 Z A M)]) [3] rfl
      have hDc := hD.sub (ws' := [(A 12, xc12 Z A M)]) [3] (by decide) rfl
      refine xk_v (wc := [(A 12, xc12 Z A M)]) (wr := [(A 0, .inr (9, [.ref (A 1), .ref (A 6), .ref (A 10), .ref (A 11), .ref (A 12), .ref (A 13), .ref (A 17)])), (A 17, .inr (0, [.ref (A 1), .ref (A 6), .ref (A 11), .ref (A 12), .ref (A 13), .ref (A 18), .ref (A 19), .int (M.1 12), .int (M.1 13), .int (M.1 14), .int (M.1 15), .int (M.1 16), .int (M.1 17), .int (M.1 18)])), (A 18, .inr (8, [.int (M.1 19), .int (M.1 20), .int (M.1 21), .int (M.1 22)]))]) (va_runV (As := []) (rest := []) ⟨hx, hb, hml, hown, hts⟩ (c_Lid_askToOpen l dC dI Z A _ M) (cwV 0 hts (xw_V _ tw_522 tw_523 tw_524 tw_7 tw_525) rfl rfl rfl (by decide +kernel) ⟨Nat.le_of_ble_eq_true rfl, Nat.le_of_ble_eq_true rfl⟩) ⟨xB_blind, va_recv (q0 := 3) (ci := 1) hK hP rfl rfl, fun U hU hW => ⟨rfl, xB_at hPc hK hDc hq U hU hW⟩⟩ rfl rfl hl.1 rfl (lv_room (Nat.le_of_ble_eq_true rfl)) d_U_open_38 ⟨Nat.le_of_ble_eq_true rfl, Nat.le_of_ble_eq_true rfl⟩) hP hD hS hA [3] [0, 1, 2] rfl rfl (by decide) (by decide) (fun u5 H locs hu5 hP hD hS => ?_)
      have hP : va_P (dC, dI) xcl [(A 0, .inr (9, [.ref (A 1), .ref (A 6), .ref (A 10), .ref (A 11), .ref (A 12), .ref (A 13), .ref (A 17)])), (A 17, .inr (0, [.ref (A 1), .ref (A 6), .ref (A 11), .ref (A 12), .ref (A 13), .ref (A 18), .ref (A 19), .int (M.1 12), .int (M.1 13), .int (M.1 14), .int (M.1 15), .int (M.1 16), .int (M.1 17), .int (M.1 18)])), (A 18, .inr (8, [.int (M.1 19), .int (M.1 20), .int (M.1 21), .int (M.1 22)])), (A 12, .inr (1, [.int (M.1 8), .int (M.1 9), .int u5]))] H := hP
      have hD : va_D AA [(A 0, .inr (9, [.ref (A 1), .ref (A 6), .ref (A 10), .ref (A 11), .ref (A 12), .ref (A 13), .ref (A 17)])), (A 17, .inr (0, [.ref (A 1), .ref (A 6), .ref (A 11), .ref (A 12), .ref (A 13), .ref (A 18), .ref (A 19), .int (M.1 12), .int (M.1 13), .int (M.1 14), .int (M.1 15), .int (M.1 16), .int (M.1 17), .int (M.1 18)])), (A 18, .inr (8, [.int (M.1 19), .int (M.1 20), .int (M.1 21), .int (M.1 22)])), (A 12, .inr (1, [.int (M.1 8), .int (M.1 9), .int u5]))] := hD
      have hP9 := hP.sub (ws' := [(A 0, xc0 Z A (ap_U_open M u5)), (A 17, xc17 Z A (ap_U_open M u5)), (A 18, xc18 Z A (ap_U_open M u5)), (A 12, xc12 Z A (ap_U_open M u5))]) [0, 1, 2, 3] rfl
      have hD9 := hD.sub (ws' := [(A 0, xc0 Z A (ap_U_open M u5)), (A 17, xc17 Z A (ap_U_open M u5)), (A 18, xc18 Z A (ap_U_open M u5)), (A 12, xc12 Z A (ap_U_open M u5))]) [0, 1, 2, 3] (by decide) rfl
      exact W.vret hx hb hr (fun t ht hW => ⟨⟨u5, rfl, (by rw [F_U_open, ← hz1, F_U_open_k1, if_neg h2, ← hz3, F_U_open_k2, if_neg h4, ← hu5, F_U_open_k3]), xE_at hP9 hK hD9 ht hW⟩, hS.F ht⟩) hS.2.2 d_U_open_41
    · exact absurd hT (by rw [T_U_open, ← hz1, T_U_open_k1, if_neg h2, ← hz3, T_U_open_k2, if_pos h4]; exact (by decide : ¬ (2 : Nat) = 0))
abbrev bc_U_dose : ByteArray := prog_1_method_15_code
def y_U_dose : MethodName := ⟨"CentrifugeUnit", "dose", "()J"⟩
theorem d_U_dose_0 : decode bc_U_dose 0 = .ok (.aload_n 0, 1) := by decide +kernel
theorem d_U_dose_1 : decode bc_U_dose 1 = .ok (.getfield 56, 3) := by decide +kernel
theorem d_U_dose_4 : decode bc_U_dose 4 = .ok (.getfield 209, 3) := by decide +kernel
theorem d_U_dose_7 : decode bc_U_dose 7 = .ok (.getfield 235, 3) := by decide +kernel
theorem d_U_dose_10 : decode bc_U_dose 10 = .ok (.lreturn, 1) := by decide +kernel
def F_U_dose (M : XM) : Int64 := (M.2.1 1)
set_option maxHeartbeats 4000000 in
set_option maxRecDepth 100000 in
theorem c_U_dose (l : Launch) (dC : Nat → ClassId) (dI : Nat → Nat → Nat) (Z : Nat → ClassId) (A : Nat → Nat) (sz : Nat) (M : XM) : Met l y_U_dose (.code y_U_dose bc_U_dose 1 (some .long) :: xw) ({ frames := 0, cells := 0, slots := 0, locals := 0 }) (va_Pc [.ref (A 0)] (xB (dC, dI) xcl (xty Z) sz [(A 0, xc0 Z A M), (A 17, xc17 Z A M), (A 19, xc19 Z A M)])) (k2_QcV (.long (F_U_dose M))) 0 0 (fun _ => False) := by
  refine Met.ofW (cc := bc_U_dose) (maxL := 1) (ret := (some .long)) (by decide) rfl ?_
  intro p e s m args below meth c s₁ B hml hv
  obtain ⟨rfl, hsz, hP, hK, hD0, hq⟩ := hv
  have hx := B.exec
  have hb := B.bytes
  have hr := B.returns
  have hts := atoms_spec (ws := (.code y_U_dose bc_U_dose 1 (some .long) :: xw)) B.pre
  have htt : ∀ w ∈ xw, w.before _ s = true := fun w h => hts w (List.mem_cons_of_mem _ h)
  have hown : s.vm.findClass "CentrifugeUnit" = some m.cls := findClass_of_methodNamed B.named
  have hlocks := B.notSynchronized
  subst hsz
  have hD : va_D (fun _ => True) [(A 0, .inr (9, [.ref (A 1), .ref (A 6), .ref (A 10), .ref (A 11), .ref (A 12), .ref (A 13), .ref (A 17)])), (A 17, .inr (0, [.ref (A 1), .ref (A 6), .ref (A 11), .ref (A 12), .ref (A 13), .ref (A 18), .ref (A 19), .int (M.1 12), .int (M.1 13), .int (M.1 14), .int (M.1 15), .int (M.1 16), .int (M.1 17), .int (M.1 18)])), (A 19, .inr (6, [.long (M.2.1 1), .long (M.2.1 2), .int (M.1 23), .int (M.1 24), .int (M.1 25), .int (M.1 26), .int (M.1 27), .int (M.1 28)]))] := hD0
  have hP : va_P (dC, dI) xcl [(A 0, .inr (9, [.ref (A 1), .ref (A 6), .ref (A 10), .ref (A 11), .ref (A 12), .ref (A 13), .ref (A 17)])), (A 17, .inr (0, [.ref (A 1), .ref (A 6), .ref (A 11), .ref (A 12), .ref (A 13), .ref (A 18), .ref (A 19), .int (M.1 12), .int (M.1 13), .int (M.1 14), .int (M.1 15), .int (M.1 16), .int (M.1 17), .int (M.1 18)])), (A 19, .inr (6, [.long (M.2.1 1), .long (M.2.1 2), .int (M.1 23), .int (M.1 24), .int (M.1 25), .int (M.1 26), .int (M.1 27), .int (M.1 28)]))] s.heap := hP
  have hl := lv_entry ([.ref (A 0)]) (n := 1) (Nat.le_of_ble_eq_true rfl)
  rw [lg_entry_eq]
  generalize (lg_sl ([.ref (A 0)]) ++ List.replicate (1 - (lg_sl ([.ref (A 0)])).length) Slot.unset).toArray = ls at hl ⊢
  have hl : lv_has ls 1 [(0, .ref (A 0))] := hl
  refine lv_aload_n hx hb d_U_dose_0 rfl (lv_at hl 0 rfl) ?_
  refine va_get (D := (dC, dI)) (ci := 9) (v := .ref (A 17)) (C := "CentrifugeUnit") (T := xF9) (N := 7) hx hb htt xin9 hown hK hP 0 rfl rfl 6 (by decide) (htt _ tw_289) (fun _ h9 => h9) rfl d_U_dose_1 ?_
  refine va_get (D := (dC, dI)) (ci := 0) (v := .ref (A 19)) (C := "CentrifugeUnit$Control") (T := xF0) (N := 14) hx hb htt xin0 hown hK hP 1 rfl rfl 6 (by decide) (htt _ tw_239) (fun _ h9 => h9) rfl d_U_dose_4 ?_
  refine va_get (D := (dC, dI)) (ci := 6) (v := .long (M.2.1 1)) (C := "CentrifugeUnit$Run") (T := xF6) (N := 8) hx hb htt xin6 hown hK hP 2 rfl rfl 0 (by decide) (htt _ tw_196) (fun _ h9 => h9) rfl d_U_dose_7 ?_
  exact W.lret hx hb hr (fun t ht hW => ⟨(by rw [F_U_dose]), ht⟩) (fun _ h => absurd h List.not_mem_nil) d_U_dose_10
abbrev bc_U_plant : ByteArray := prog_1_method_17_code
def y_U_plant : MethodName := ⟨"CentrifugeUnit", "plant", "()J"⟩
theorem d_U_plant_0 : decode bc_U_plant 0 = .ok (.aload_n 0, 1) := by decide +kernel
theorem d_U_plant_1 : decode bc_U_plant 1 = .ok (.getfield 26, 3) := by decide +kernel
theorem d_U_plant_4 : decode bc_U_plant 4 = .ok (.getfield 250, 3) := by decide +kernel
theorem d_U_plant_7 : decode bc_U_plant 7 = .ok (.lreturn, 1) := by decide +kernel
def F_U_plant (M : XM) : Int64 := (M.2.1 0)
set_option maxHeartbeats 4000000 in
set_option maxRecDepth 100000 in
theorem c_U_plant (l : Launch) (dC : Nat → ClassId) (dI : Nat → Nat → Nat) (Z : Nat → ClassId) (A : Nat → Nat) (sz : Nat) (M : XM) : Met l y_U_plant (.code y_U_plant bc_U_plant 1 (some .long) :: xw) ({ frames := 0, cells := 0, slots := 0, locals := 0 }) (va_Pc [.ref (A 0)] (xB (dC, dI) xcl (xty Z) sz [(A 0, xc0 Z A M), (A 10, xc10 Z A M)])) (k2_QcV (.long (F_U_plant M))) 0 0 (fun _ => False) := by
  refine Met.ofW (cc := bc_U_plant) (maxL := 1) (ret := (some .long)) (by decide) rfl ?_
  intro p e s m args below meth c s₁ B hml hv
  obtain ⟨rfl, hsz, hP, hK, hD0, hq⟩ := hv
  have hx := B.exec
  have hb := B.bytes
  have hr := B.returns
  have hts := atoms_spec (ws := (.code y_U_plant bc_U_plant 1 (some .long) :: xw)) B.pre
  have htt : ∀ w ∈ xw, w.before _ s = true := fun w h => hts w (List.mem_cons_of_mem _ h)
  have hown : s.vm.findClass "CentrifugeUnit" = some m.cls := findClass_of_methodNamed B.named
  have hlocks := B.notSynchronized
  subst hsz
  have hD : va_D (fun _ => True) [(A 0, .inr (9, [.ref (A 1), .ref (A 6), .ref (A 10), .ref (A 11), .ref (A 12), .ref (A 13), .ref (A 17)])), (A 10, .inr (2, [.long (M.2.1 0)]))] := hD0
  have hP : va_P (dC, dI) xcl [(A 0, .inr (9, [.ref (A 1), .ref (A 6), .ref (A 10), .ref (A 11), .ref (A 12), .ref (A 13), .ref (A 17)])), (A 10, .inr (2, [.long (M.2.1 0)]))] s.heap := hP
  have hl := lv_entry ([.ref (A 0)]) (n := 1) (Nat.le_of_ble_eq_true rfl)
  rw [lg_entry_eq]
  generalize (lg_sl ([.ref (A 0)]) ++ List.replicate (1 - (lg_sl ([.ref (A 0)])).length) Slot.unset).toArray = ls at hl ⊢
  have hl : lv_has ls 1 [(0, .ref (A 0))] := hl
  refine lv_aload_n hx hb d_U_plant_0 rfl (lv_at hl 0 rfl) ?_
  refine va_get (D := (dC, dI)) (ci := 9) (v := .ref (A 10)) (C := "CentrifugeUnit") (T := xF9) (N := 7) hx hb htt xin9 hown hK hP 0 rfl rfl 2 (by decide) (htt _ tw_285) (fun _ h9 => h9) rfl d_U_plant_1 ?_
  refine va_get (D := (dC, dI)) (ci := 2) (v := .long (M.2.1 0)) (C := "CentrifugeUnit$Model") (T := xF2) (N := 1) hx hb htt xin2 hown hK hP 1 rfl rfl 0 (by decide) (htt _ tw_85) (fun _ h9 => h9) rfl d_U_plant_4 ?_
  exact W.lret hx hb hr (fun t ht hW => ⟨(by rw [F_U_plant]), ht⟩) (fun _ h => absurd h List.not_mem_nil) d_U_plant_7
