theorem xall {M : XM} {a1 a2 a3 a4 a5 z : Int32} (h : ¬ z = 0) (hz : z = F_Rotors_allowed M a1 a2 a3 a4 a5) : vp_in a1 4 := by
  rw [hz, F_Rotors_allowed] at h
  by_cases q : F_Rotors_exists M a1 = 0
  · exfalso; apply h
    simp only [F_Rotors_allowed_k1, F_Rotors_allowed_k2, F_Rotors_allowed_k3, F_Rotors_allowed_k4, F_Rotors_allowed_k5, q, if_true]
  · exact xex q rfl
abbrev bc_U_rotor : ByteArray := prog_1_method_2_code
def y_U_rotor : MethodName := ⟨"CentrifugeUnit", "rotor", "(IIIII)V"⟩
theorem d_U_rotor_0 : decode bc_U_rotor 0 = .ok (.iload_n 1, 1) := by decide +kernel
theorem d_U_rotor_1 : decode bc_U_rotor 1 = .ok (.iload_n 2, 1) := by decide +kernel
theorem d_U_rotor_2 : decode bc_U_rotor 2 = .ok (.iload_n 3, 1) := by decide +kernel
theorem d_U_rotor_3 : decode bc_U_rotor 3 = .ok (.iload 4, 2) := by decide +kernel
theorem d_U_rotor_5 : decode bc_U_rotor 5 = .ok (.iload 5, 2) := by decide +kernel
theorem d_U_rotor_7 : decode bc_U_rotor 7 = .ok (.invokestatic 60, 3) := by decide +kernel
theorem d_U_rotor_10 : decode bc_U_rotor 10 = .ok (.ifCond .eq 15, 3) := by decide +kernel
theorem d_U_rotor_13 : decode bc_U_rotor 13 = .ok (.aload_n 0, 1) := by decide +kernel
theorem d_U_rotor_14 : decode bc_U_rotor 14 = .ok (.getfield 10, 3) := by decide +kernel
theorem d_U_rotor_17 : decode bc_U_rotor 17 = .ok (.iload_n 1, 1) := by decide +kernel
theorem d_U_rotor_18 : decode bc_U_rotor 18 = .ok (.iload_n 2, 1) := by decide +kernel
theorem d_U_rotor_19 : decode bc_U_rotor 19 = .ok (.invokevirtual 64, 3) := by decide +kernel
theorem d_U_rotor_22 : decode bc_U_rotor 22 = .ok (.ifCond .eq 13, 3) := by decide +kernel
theorem d_U_rotor_25 : decode bc_U_rotor 25 = .ok (.new 68, 3) := by decide +kernel
theorem d_U_rotor_28 : decode bc_U_rotor 28 = .ok (.dup, 1) := by decide +kernel
theorem d_U_rotor_29 : decode bc_U_rotor 29 = .ok (.ldc 70, 2) := by decide +kernel
theorem d_U_rotor_31 : decode bc_U_rotor 31 = .ok (.invokespecial 72, 3) := by decide +kernel
theorem d_U_rotor_34 : decode bc_U_rotor 34 = .ok (.athrow, 1) := by decide +kernel
theorem d_U_rotor_35 : decode bc_U_rotor 35 = .ok (.aload_n 0, 1) := by decide +kernel
theorem d_U_rotor_36 : decode bc_U_rotor 36 = .ok (.getfield 56, 3) := by decide +kernel
theorem d_U_rotor_39 : decode bc_U_rotor 39 = .ok (.iconst 0, 1) := by decide +kernel
theorem d_U_rotor_40 : decode bc_U_rotor 40 = .ok (.invokevirtual 75, 3) := by decide +kernel
theorem d_U_rotor_43 : decode bc_U_rotor 43 = .ok (.ifCond .ne 13, 3) := by decide +kernel
theorem d_U_rotor_46 : decode bc_U_rotor 46 = .ok (.new 79, 3) := by decide +kernel
def T_U_rotor_k3 (M : XM) (a1 : Int32) (a2 : Int32) (a3 : Int32) (a4 : Int32) (a5 : Int32) (z1 : Int32) (z3 : Int32) (z5 : Int32) : Nat := (if z5 = 0 then 2 else 0)
def T_U_rotor_k2 (M : XM) (a1 : Int32) (a2 : Int32) (a3 : Int32) (a4 : Int32) (a5 : Int32) (z1 : Int32) (z3 : Int32) : Nat := (if z3 = 0 then (T_U_rotor_k3 M a1 a2 a3 a4 a5 z1 z3 (F_Control_takesOrders M 0)) else 1)
def T_U_rotor_k1 (M : XM) (a1 : Int32) (a2 : Int32) (a3 : Int32) (a4 : Int32) (a5 : Int32) (z1 : Int32) : Nat := (if z1 = 0 then 1 else (T_U_rotor_k2 M a1 a2 a3 a4 a5 z1 (F_Rotors_anotherHas M a1 a2)))
def T_U_rotor (M : XM) (a1 : Int32) (a2 : Int32) (a3 : Int32) (a4 : Int32) (a5 : Int32) : Nat := (T_U_rotor_k1 M a1 a2 a3 a4 a5 (F_Rotors_allowed M a1 a2 a3 a4 a5))
set_option maxHeartbeats 4000000 in
set_option maxRecDepth 100000 in
theorem t1_U_rotor (l : Launch) (dC : Nat → ClassId) (dI : Nat → Nat → Nat) (Z : Nat → ClassId) (A : Nat → Nat) (sz : Nat) (M : XM) (a1 : Int32) (a2 : Int32) (a3 : Int32) (a4 : Int32) (a5 : Int32) (htl : l.stackTraces = false) (hT : T_U_rotor M a1 a2 a3 a4 a5 = 1) : MetT l y_U_rotor (.code y_U_rotor bc_U_rotor 6 none :: xw) ({ frames := 6, cells := 1, slots := 6, locals := 90 }) (va_Pc [.ref (A 0), .int a1, .int a2, .int a3, .int a4, .int a5] (xBs (dC, dI) xcl (xty Z) sz [(A 0, xc0 Z A M), (A 1, xc1 Z A M), (A 2, xc2 Z A M), (A 3, xc3 Z A M), (A 4, xc4 Z A M), (A 5, xc5 Z A M), (A 17, xc17 Z A M)])) xIAE 1 6 := by
  refine MetT.ofW (cc := bc_U_rotor) (maxL := 6) (ret := none) (by decide) rfl ?_
  intro p e s m args below meth c s₁ B hml hv
  obtain ⟨rfl, ⟨hsz, hP, hK, hD0, hq⟩, hs⟩ := hv
  have hx := B.exec
  have hb := B.bytes
  have hts := atoms_spec (ws := (.code y_U_rotor bc_U_rotor 6 none :: xw)) B.pre
  have htt : ∀ w ∈ xw, w.before _ s = true := fun w h => hts w (List.mem_cons_of_mem _ h)
  have hown : s.vm.findClass "CentrifugeUnit" = some m.cls := findClass_of_methodNamed B.named
  have hlocks := B.notSynchronized
  subst hsz
  have hD : va_D (fun _ => True) [(A 0, .inr (9, [.ref (A 1), .ref (A 6), .ref (A 10), .ref (A 11), .ref (A 12), .ref (A 13), .ref (A 17)])), (A 1, .inr (5, [.ref (A 2), .ref (A 3), .ref (A 4), .ref (A 5), .int (M.1 0)])), (A 2, .inl (Z 0, 4, .inl (M.2.2.1 2))), (A 3, .inl (Z 0, 4, .inl (M.2.2.1 3))), (A 4, .inl (Z 0, 4, .inl (M.2.2.1 4))), (A 5, .inl (Z 0, 4, .inl (M.2.2.1 5))), (A 17, .inr (0, [.ref (A 1), .ref (A 6), .ref (A 11), .ref (A 12), .ref (A 13), .ref (A 18), .ref (A 19), .int (M.1 12), .int (M.1 13), .int (M.1 14), .int (M.1 15), .int (M.1 16), .int (M.1 17), .int (M.1 18)]))] := hD0
  have hP : va_P (dC, dI) xcl [(A 0, .inr (9, [.ref (A 1), .ref (A 6), .ref (A 10), .ref (A 11), .ref (A 12), .ref (A 13), .ref (A 17)])), (A 1, .inr (5, [.ref (A 2), .ref (A 3), .ref (A 4), .ref (A 5), .int (M.1 0)])), (A 2, .inl (Z 0, 4, .inl (M.2.2.1 2))), (A 3, .inl (Z 0, 4, .inl (M.2.2.1 3))), (A 4, .inl (Z 0, 4, .inl (M.2.2.1 4))), (A 5, .inl (Z 0, 4, .inl (M.2.2.1 5))), (A 17, .inr (0, [.ref (A 1), .ref (A 6), .ref (A 11), .ref (A 12), .ref (A 13), .ref (A 18), .ref (A 19), .int (M.1 12), .int (M.1 13), .int (M.1 14), .int (M.1 15), .int (M.1 16), .int (M.1 17), .int (M.1 18)]))] s.heap := hP
  have hl := lv_entry ([.ref (A 0), .int a1, .int a2, .int a3, .int a4, .int a5]) (n := 6) (Nat.le_of_ble_eq_true rfl)
  rw [lg_entry_eq]
  generalize (lg_sl ([.ref (A 0), .int a1, .int a2, .int a3, .int a4, .int a5]) ++ List.replicate (6 - (lg_sl ([.ref (A 0), .int a1, .int a2, .int a3, .int a4, .int a5])).length) Slot.unset).toArray = ls at hl ⊢
  have hl : lv_has ls 6 [(0, .ref (A 0)), (1, .int a1), (2, .int a2), (3, .int a3), (4, .int a4), (5, .int a5)] := hl
  refine lv_iload_n hx hb d_U_rotor_0 rfl (lv_at hl 1 rfl) ?_
  refine lv_iload_n hx hb d_U_rotor_1 rfl (lv_at hl 2 rfl) ?_
  refine lv_iload_n hx hb d_U_rotor_2 rfl (lv_at hl 3 rfl) ?_
  refine lv_iload hx hb d_U_rotor_3 (lv_at hl 4 rfl) ?_
  refine lv_iload hx hb d_U_rotor_5 (lv_at hl 5 rfl) ?_
  have hPc := hP.sub (ws' := []) [] rfl
  have hDc := hD.sub (ws' := []) [] (by decide) rfl
  refine xk_p (va_runS (As := [.int a1, .int a2, .int a3, .int a4, .int a5]) (rest := []) ⟨hx, hb, hml, hown, hts⟩ (c_Rotors_allowed l dC dI Z A _ M a1 a2 a3 a4 a5) (va_cwS 5 hts (xw_S _ tw_342 tw_343 tw_2 tw_344) rfl rfl rfl (by decide +kernel) ⟨Nat.le_of_ble_eq_true rfl, Nat.le_of_ble_eq_true rfl⟩) ⟨xB_blind, fun U hU hW => ⟨rfl, xB_at hPc hK hDc hq U hU hW⟩⟩ rfl rfl hl.1 rfl (lv_room (Nat.le_of_ble_eq_true rfl)) d_U_rotor_7 ⟨Nat.le_of_ble_eq_true rfl, Nat.le_of_ble_eq_true rfl⟩) ?_
  refine lv_topi (fun z1 hz1 => ?_)
  refine lv_if_eq (tgt := 25) hx hb d_U_rotor_10 rfl (fun h2 => ?_) (fun h2 => ?_)
  · obtain ⟨q9, hZ⟩ := hq.2.1 ("CentrifugeUnit", 70, "no such rotor, or its pattern is taken") (by decide +kernel)
    exact xt_throw (names := ["java/lang/RuntimeException", "java/lang/Exception"]) hx hb htl hown (htt _ tw_353) (htt _ tw_354) (htt _ tw_16) hZ (xo_all htt hq hs xo_1_72) (by decide) (by decide) d_U_rotor_25 d_U_rotor_28 d_U_rotor_29 d_U_rotor_31 d_U_rotor_34 (B.noHandlers (hts _ List.mem_cons_self)) (hl.1.trans hml.symm) hlocks (by decide) (by decide) (by decide) (by decide)
  · refine lv_aload_n hx hb d_U_rotor_13 rfl (lv_at hl 0 rfl) ?_
    refine va_get (D := (dC, dI)) (ci := 9) (v := .ref (A 1)) (C := "CentrifugeUnit") (T := xF9) (N := 7) hx hb htt xin9 hown hK hP 0 rfl rfl 0 (by decide) (htt _ tw_283) (fun _ h9 => h9) rfl d_U_rotor_14 ?_
    refine lv_iload_n hx hb d_U_rotor_17 rfl (lv_at hl 1 rfl) ?_
    refine lv_iload_n hx hb d_U_rotor_18 rfl (lv_at hl 2 rfl) ?_
    have hPc := hP.sub (ws' := [(A 1, xc1 Z A M), (A 2, xc2 Z A M)]) [1, 2] rfl
    have hDc := hD.sub (ws' := [(A 1, xc1 Z A M), (A 2, xc2 Z A M)]) [1, 2] (by decide) rfl
    refine xk_p (va_runV (As := [.int a1, .int a2]) (rest := []) ⟨hx, hb, hml, hown, hts⟩ (c_Rotors_anotherHas l dC dI Z A _ M a1 a2) (cwV 2 hts (xw_V _ tw_345 tw_346 tw_347 tw_2 tw_348) rfl rfl rfl (by decide +kernel) ⟨Nat.le_of_ble_eq_true rfl, Nat.le_of_ble_eq_true rfl⟩) ⟨xB_blind, va_recv (q0 := 1) (ci := 5) hK hP rfl rfl, fun U hU hW => ⟨rfl, xB_at hPc hK hDc hq U hU hW⟩⟩ rfl rfl hl.1 rfl (lv_room (Nat.le_of_ble_eq_true rfl)) d_U_rotor_19 ⟨Nat.le_of_ble_eq_true rfl, Nat.le_of_ble_eq_true rfl⟩) ?_
    refine lv_topi (fun z3 hz3 => ?_)
    refine lv_if_eq (tgt := 35) hx hb d_U_rotor_22 rfl (fun h4 => ?_) (fun h4 => ?_)
    · refine lv_aload_n hx hb d_U_rotor_35 rfl (lv_at hl 0 rfl) ?_
      refine va_get (D := (dC, dI)) (ci := 9) (v := .ref (A 17)) (C := "CentrifugeUnit") (T := xF9) (N := 7) hx hb htt xin9 hown hK hP 0 rfl rfl 6 (by decide) (htt _ tw_289) (fun _ h9 => h9) rfl d_U_rotor_36 ?_
      refine lv_iconst (v := 0) hx hb d_U_rotor_39 (by decide) ?_
      have hPc := hP.sub (ws' := [(A 17, xc17 Z A M)]) [6] rfl
      have hDc := hD.sub (ws' := [(A 17, xc17 Z A M)]) [6] (by decide) rfl
      refine xk_p (va_runV (As := [.int 0]) (rest := []) ⟨hx, hb, hml, hown, hts⟩ (c_Control_takesOrders l dC dI Z A _ M 0) (cwV 1 hts (xw_V _ tw_421 tw_422 tw_423 tw_9 tw_424) rfl rfl rfl (by decide +kernel) ⟨Nat.le_of_ble_eq_true rfl, Nat.le_of_ble_eq_true rfl⟩) ⟨xB_blind, va_recv (q0 := 6) (ci := 0) hK hP rfl rfl, fun U hU hW => ⟨rfl, xB_at hPc hK hDc hq U hU hW⟩⟩ rfl rfl hl.1 rfl (lv_room (Nat.le_of_ble_eq_true rfl)) d_U_rotor_40 ⟨Nat.le_of_ble_eq_true rfl, Nat.le_of_ble_eq_true rfl⟩) ?_
      refine lv_topi (fun z5 hz5 => ?_)
      refine lv_if_ne (tgt := 56) hx hb d_U_rotor_43 rfl (fun h6 => ?_) (fun h6 => ?_)
      · exact absurd hT (by rw [T_U_rotor, ← hz1, T_U_rotor_k1, if_neg h2, ← hz3, T_U_rotor_k2, if_pos h4, ← hz5, T_U_rotor_k3, if_neg h6]; exact (by decide : ¬ (0 : Nat) = 1))
      · exact absurd hT (by rw [T_U_rotor, ← hz1, T_U_rotor_k1, if_neg h2, ← hz3, T_U_rotor_k2, if_pos h4, ← hz5, T_U_rotor_k3, if_pos h6]; exact (by decide : ¬ (2 : Nat) = 1))
    · obtain ⟨q9, hZ⟩ := hq.2.1 ("CentrifugeUnit", 70, "no such rotor, or its pattern is taken") (by decide +kernel)
      exact xt_throw (names := ["java/lang/RuntimeException", "java/lang/Exception"]) hx hb htl hown (htt _ tw_353) (htt _ tw_354) (htt _ tw_16) hZ (xo_all htt hq hs xo_1_72) (by decide) (by decide) d_U_rotor_25 d_U_rotor_28 d_U_rotor_29 d_U_rotor_31 d_U_rotor_34 (B.noHandlers (hts _ List.mem_cons_self)) (hl.1.trans hml.symm) hlocks (by decide) (by decide) (by decide) (by decide)
theorem d_U_rotor_49 : decode bc_U_rotor 49 = .ok (.dup, 1) := by decide +kernel
theorem d_U_rotor_50 : decode bc_U_rotor 50 = .ok (.ldc 81, 2) := by decide +kernel
theorem d_U_rotor_52 : decode bc_U_rotor 52 = .ok (.invokespecial 83, 3) := by decide +kernel
theorem d_U_rotor_55 : decode bc_U_rotor 55 = .ok (.athrow, 1) := by decide +kernel
set_option maxHeartbeats 4000000 in
set_option maxRecDepth 100000 in
theorem t2_U_rotor (l : Launch) (dC : Nat → ClassId) (dI : Nat → Nat → Nat) (Z : Nat → ClassId) (A : Nat → Nat) (sz : Nat) (M : XM) (a1 : Int32) (a2 : Int32) (a3 : Int32) (a4 : Int32) (a5 : Int32) (htl : l.stackTraces = false) (hT : T_U_rotor M a1 a2 a3 a4 a5 = 2) : MetT l y_U_rotor (.code y_U_rotor bc_U_rotor 6 none :: xw) ({ frames := 6, cells := 1, slots := 6, locals := 90 }) (va_Pc [.ref (A 0), .int a1, .int a2, .int a3, .int a4, .int a5] (xBs (dC, dI) xcl (xty Z) sz [(A 0, xc0 Z A M), (A 1, xc1 Z A M), (A 2, xc2 Z A M), (A 3, xc3 Z A M), (A 4, xc4 Z A M), (A 5, xc5 Z A M), (A 17, xc17 Z A M)])) xISE 1 6 := by
  refine MetT.ofW (cc := bc_U_rotor) (maxL := 6) (ret := none) (by decide) rfl ?_
  intro p e s m args below meth c s₁ B hml hv
  obtain ⟨rfl, ⟨hsz, hP, hK, hD0, hq⟩, hs⟩ := hv
  have hx := B.exec
  have hb := B.bytes
  have hts := atoms_spec (ws := (.code y_U_rotor bc_U_rotor 6 none :: xw)) B.pre
  have htt : ∀ w ∈ xw, w.before _ s = true := fun w h => hts w (List.mem_cons_of_mem _ h)
  have hown : s.vm.findClass "CentrifugeUnit" = some m.cls := findClass_of_methodNamed B.named
  have hlocks := B.notSynchronized
  subst hsz
  have hD : va_D (fun _ => True) [(A 0, .inr (9, [.ref (A 1), .ref (A 6), .ref (A 10), .ref (A 11), .ref (A 12), .ref (A 13), .ref (A 17)])), (A 1, .inr (5, [.ref (A 2), .ref (A 3), .ref (A 4), .ref (A 5), .int (M.1 0)])), (A 2, .inl (Z 0, 4, .inl (M.2.2.1 2))), (A 3, .inl (Z 0, 4, .inl (M.2.2.1 3))), (A 4, .inl (Z 0, 4, .inl (M.2.2.1 4))), (A 5, .inl (Z 0, 4, .inl (M.2.2.1 5))), (A 17, .inr (0, [.ref (A 1), .ref (A 6), .ref (A 11), .ref (A 12), .ref (A 13), .ref (A 18), .ref (A 19), .int (M.1 12), .int (M.1 13), .int (M.1 14), .int (M.1 15), .int (M.1 16), .int (M.1 17), .int (M.1 18)]))] := hD0
  have hP : va_P (dC, dI) xcl [(A 0, .inr (9, [.ref (A 1), .ref (A 6), .ref (A 10), .ref (A 11), .ref (A 12), .ref (A 13), .ref (A 17)])), (A 1, .inr (5, [.ref (A 2), .ref (A 3), .ref (A 4), .ref (A 5), .int (M.1 0)])), (A 2, .inl (Z 0, 4, .inl (M.2.2.1 2))), (A 3, .inl (Z 0, 4, .inl (M.2.2.1 3))), (A 4, .inl (Z 0, 4, .inl (M.2.2.1 4))), (A 5, .inl (Z 0, 4, .inl (M.2.2.1 5))), (A 17, .inr (0, [.ref (A 1), .ref (A 6), .ref (A 11), .ref (A 12), .ref (A 13), .ref (A 18), .ref (A 19), .int (M.1 12), .int (M.1 13), .int (M.1 14), .int (M.1 15), .int (M.1 16), .int (M.1 17), .int (M.1 18)]))] s.heap := hP
  have hl := lv_entry ([.ref (A 0), .int a1, .int a2, .int a3, .int a4, .int a5]) (n := 6) (Nat.le_of_ble_eq_true rfl)
  rw [lg_entry_eq]
  generalize (lg_sl ([.ref (A 0), .int a1, .int a2, .int a3, .int a4, .int a5]) ++ List.replicate (6 - (lg_sl ([.ref (A 0), .int a1, .int a2, .int a3, .int a4, .int a5])).length) Slot.unset).toArray = ls at hl ⊢
  have hl : lv_has ls 6 [(0, .ref (A 0)), (1, .int a1), (2, .int a2), (3, .int a3), (4, .int a4), (5, .int a5)] := hl
  refine lv_iload_n hx hb d_U_rotor_0 rfl (lv_at hl 1 rfl) ?_
  refine lv_iload_n hx hb d_U_rotor_1 rfl (lv_at hl 2 rfl) ?_
  refine lv_iload_n hx hb d_U_rotor_2 rfl (lv_at hl 3 rfl) ?_
  refine lv_iload hx hb d_U_rotor_3 (lv_at hl 4 rfl) ?_
  refine lv_iload hx hb d_U_rotor_5 (lv_at hl 5 rfl) ?_
  have hPc := hP.sub (ws' := []) [] rfl
  have hDc := hD.sub (ws' := []) [] (by decide) rfl
  refine xk_p (va_runS (As := [.int a1, .int a2, .int a3, .int a4, .int a5]) (rest := []) ⟨hx, hb, hml, hown, hts⟩ (c_Rotors_allowed l dC dI Z A _ M a1 a2 a3 a4 a5) (va_cwS 5 hts (xw_S _ tw_342 tw_343 tw_2 tw_344) rfl rfl rfl (by decide +kernel) ⟨Nat.le_of_ble_eq_true rfl, Nat.le_of_ble_eq_true rfl⟩) ⟨xB_blind, fun U hU hW => ⟨rfl, xB_at hPc hK hDc hq U hU hW⟩⟩ rfl rfl hl.1 rfl (lv_room (Nat.le_of_ble_eq_true rfl)) d_U_rotor_7 ⟨Nat.le_of_ble_eq_true rfl, Nat.le_of_ble_eq_true rfl⟩) ?_
  refine lv_topi (fun z1 hz1 => ?_)
  refine lv_if_eq (tgt := 25) hx hb d_U_rotor_10 rfl (fun h2 => ?_) (fun h2 => ?_)
  · exact absurd hT (by rw [T_U_rotor, ← hz1, T_U_rotor_k1, if_pos h2]; exact (by decide : ¬ (1 : Nat) = 2))
  · refine lv_aload_n hx hb d_U_rotor_13 rfl (lv_at hl 0 rfl) ?_
    refine va_get (D := (dC, dI)) (ci := 9) (v := .ref (A 1)) (C := "CentrifugeUnit") (T := xF9) (N := 7) hx hb htt xin9 hown hK hP 0 rfl rfl 0 (by decide) (htt _ tw_283) (fun _ h9 => h9) rfl d_U_rotor_14 ?_
    refine lv_iload_n hx hb d_U_rotor_17 rfl (lv_at hl 1 rfl) ?_
    refine lv_iload_n hx hb d_U_rotor_18 rfl (lv_at hl 2 rfl) ?_
    have hPc := hP.sub (ws' := [(A 1, xc1 Z A M), (A 2, xc2 Z A M)]) [1, 2] rfl
    have hDc := hD.sub (ws' := [(A 1, xc1 Z A M), (A 2, xc2 Z A M)]) [1, 2] (by decide) rfl
    refine xk_p (va_runV (As := [.int a1, .int a2]) (rest := []) ⟨hx, hb, hml, hown, hts⟩ (c_Rotors_anotherHas l dC dI Z A _ M a1 a2) (cwV 2 hts (xw_V _ tw_345 tw_346 tw_347 tw_2 tw_348) rfl rfl rfl (by decide +kernel) ⟨Nat.le_of_ble_eq_true rfl, Nat.le_of_ble_eq_true rfl⟩) ⟨xB_blind, va_recv (q0 := 1) (ci := 5) hK hP rfl rfl, fun U hU hW => ⟨rfl, xB_at hPc hK hDc hq U hU hW⟩⟩ rfl rfl hl.1 rfl (lv_room (Nat.le_of_ble_eq_true rfl)) d_U_rotor_19 ⟨Nat.le_of_ble_eq_true rfl, Nat.le_of_ble_eq_true rfl⟩) ?_
    refine lv_topi (fun z3 hz3 => ?_)
    refine lv_if_eq (tgt := 35) hx hb d_U_rotor_22 rfl (fun h4 => ?_) (fun h4 => ?_)
    · refine lv_aload_n hx hb d_U_rotor_35 rfl (lv_at hl 0 rfl) ?_
      refine va_get (D := (dC, dI)) (ci := 9) (v := .ref (A 17)) (C := "CentrifugeUnit") (T := xF9) (N := 7) hx hb htt xin9 hown hK hP 0 rfl rfl 6 (by decide) (htt _ tw_289) (fun _ h9 => h9) rfl d_U_rotor_36 ?_
      refine lv_iconst (v := 0) hx hb d_U_rotor_39 (by decide) ?_
      have hPc := hP.sub (ws' := [(A 17, xc17 Z A M)]) [6] rfl
      have hDc := hD.sub (ws' := [(A 17, xc17 Z A M)]) [6] (by decide) rfl
      refine xk_p (va_runV (As := [.int 0]) (rest := []) ⟨hx, hb, hml, hown, hts⟩ (c_Control_takesOrders l dC dI Z A _ M 0) (cwV 1 hts (xw_V _ tw_421 tw_422 tw_423 tw_9 tw_424) rfl rfl rfl (by decide +kernel) ⟨Nat.le_of_ble_eq_true rfl, Nat.le_of_ble_eq_true rfl⟩) ⟨xB_blind, va_recv (q0 := 6) (ci := 0) hK hP rfl rfl, fun U hU hW => ⟨rfl, xB_at hPc hK hDc hq U hU hW⟩⟩ rfl rfl hl.1 rfl (lv_room (Nat.le_of_ble_eq_true rfl)) d_U_rotor_40 ⟨Nat.le_of_ble_eq_true rfl, Nat.le_of_ble_eq_true rfl⟩) ?_
      refine lv_topi (fun z5 hz5 => ?_)
      refine lv_if_ne (tgt := 56) hx hb d_U_rotor_43 rfl (fun h6 => ?_) (fun h6 => ?_)
      · exact absurd hT (by rw [T_U_rotor, ← hz1, T_U_rotor_k1, if_neg h2, ← hz3, T_U_rotor_k2, if_pos h4, ← hz5, T_U_rotor_k3, if_neg h6]; exact (by decide : ¬ (0 : Nat) = 2))
      · obtain ⟨q9, hZ⟩ := hq.2.1 ("CentrifugeUnit", 81, "a rotor is told when idle, with power") (by decide +kernel)
        exact xt_throw (names := ["java/lang/RuntimeException", "java/lang/Exception"]) hx hb htl hown (htt _ tw_425) (htt _ tw_426) (htt _ tw_17) hZ (xo_all htt hq hs xo_2_83) (by decide) (by decide) d_U_rotor_46 d_U_rotor_49 d_U_rotor_50 d_U_rotor_52 d_U_rotor_55 (B.noHandlers (hts _ List.mem_cons_self)) (hl.1.trans hml.symm) hlocks (by decide) (by decide) (by decide) (by decide)
    · exact absurd hT (by rw [T_U_rotor, ← hz1, T_U_rotor_k1, if_neg h2, ← hz3, T_U_rotor_k2, if_neg h4]; exact (by decide : ¬ (1 : Nat) = 2))
theorem d_U_rotor_56 : decode bc_U_rotor 56 = .ok (.aload_n 0, 1) := by decide +kernel
theorem d_U_rotor_57 : decode bc_U_rotor 57 = .ok (.getfield 10, 3) := by decide +kernel
theorem d_U_rotor_60 : decode bc_U_rotor 60 = .ok (.iload_n 1, 1) := by decide +kernel
theorem d_U_rotor_61 : decode bc_U_rotor 61 = .ok (.iload_n 2, 1) := by decide +kernel
theorem d_U_rotor_62 : decode bc_U_rotor 62 = .ok (.iload_n 3, 1) := by decide +kernel
theorem d_U_rotor_63 : decode bc_U_rotor 63 = .ok (.iload 4, 2) := by decide +kernel
theorem d_U_rotor_65 : decode bc_U_rotor 65 = .ok (.iload 5, 2) := by decide +kernel
theorem d_U_rotor_67 : decode bc_U_rotor 67 = .ok (.invokevirtual 84, 3) := by decide +kernel
theorem d_U_rotor_70 : decode bc_U_rotor 70 = .ok (.return_, 1) := by decide +kernel
abbrev ap_U_rotor (M : XM) (u : ((Nat → Int32) × (Nat → Int32) × (Nat → Int32) × (Nat → Int32))) : XM := (M.1, M.2.1, (va_up (va_up (va_up (va_up M.2.2.1 2 (u.1)) 3 (u.2.1)) 4 (u.2.2.1)) 5 (u.2.2.2)), M.2.2.2)
def F_U_rotor_k4 (M : XM) (a1 : Int32) (a2 : Int32) (a3 : Int32) (a4 : Int32) (a5 : Int32) (z1 : Int32) (z3 : Int32) (z5 : Int32) (u7 : ((Nat → Int32) × (Nat → Int32) × (Nat → Int32) × (Nat → Int32))) : ((Nat → Int32) × (Nat → Int32) × (Nat → Int32) × (Nat → Int32)) := ((u7.1), (u7.2.1), (u7.2.2.1), (u7.2.2.2))
def F_U_rotor_k3 (M : XM) (a1 : Int32) (a2 : Int32) (a3 : Int32) (a4 : Int32) (a5 : Int32) (z1 : Int32) (z3 : Int32) (z5 : Int32) : ((Nat → Int32) × (Nat → Int32) × (Nat → Int32) × (Nat → Int32)) := (if z5 = 0 then ((M.2.2.1 2), (M.2.2.1 3), (M.2.2.1 4), (M.2.2.1 5)) else (F_U_rotor_k4 M a1 a2 a3 a4 a5 z1 z3 z5 (F_Rotors_keep M a1 a2 a3 a4 a5)))
def F_U_rotor_k2 (M : XM) (a1 : Int32) (a2 : Int32) (a3 : Int32) (a4 : Int32) (a5 : Int32) (z1 : Int32) (z3 : Int32) : ((Nat → Int32) × (Nat → Int32) × (Nat → Int32) × (Nat → Int32)) := (if z3 = 0 then (F_U_rotor_k3 M a1 a2 a3 a4 a5 z1 z3 (F_Control_takesOrders M 0)) else ((M.2.2.1 2), (M.2.2.1 3), (M.2.2.1 4), (M.2.2.1 5)))
def F_U_rotor_k1 (M : XM) (a1 : Int32) (a2 : Int32) (a3 : Int32) (a4 : Int32) (a5 : Int32) (z1 : Int32) : ((Nat → Int32) × (Nat → Int32) × (Nat → Int32) × (Nat → Int32)) := (if z1 = 0 then ((M.2.2.1 2), (M.2.2.1 3), (M.2.2.1 4), (M.2.2.1 5)) else (F_U_rotor_k2 M a1 a2 a3 a4 a5 z1 (F_Rotors_anotherHas M a1 a2)))
def F_U_rotor (M : XM) (a1 : Int32) (a2 : Int32) (a3 : Int32) (a4 : Int32) (a5 : Int32) : ((Nat → Int32) × (Nat → Int32) × (Nat → Int32) × (Nat → Int32)) := (F_U_rotor_k1 M a1 a2 a3 a4 a5 (F_Rotors_allowed M a1 a2 a3 a4 a5))
set_option maxHeartbeats 4000000 in
set_option maxRecDepth 100000 in
theorem c_U_rotor (l : Launch) (dC : Nat → ClassId) (dI : Nat → Nat → Nat) (Z : Nat → ClassId) (A : Nat → Nat) (sz : Nat) (M : XM) (a1 : Int32) (a2 : Int32) (a3 : Int32) (a4 : Int32) (a5 : Int32) (hT : T_U_rotor M a1 a2 a3 a4 a5 = 0) : Met l y_U_rotor (.code y_U_rotor bc_U_rotor 6 none :: xw) ({ frames := 3, cells := 0, slots := 0, locals := 66 }) (va_Pc [.ref (A 0), .int a1, .int a2, .int a3, .int a4, .int a5] (xB (dC, dI) xcl (xty Z) sz [(A 0, xc0 Z A M), (A 1, xc1 Z A M), (A 2, xc2 Z A M), (A 3, xc3 Z A M), (A 4, xc4 Z A M), (A 5, xc5 Z A M), (A 17, xc17 Z A M)])) (va_Qv (fun u : ((Nat → Int32) × (Nat → Int32) × (Nat → Int32) × (Nat → Int32)) => u = F_U_rotor M a1 a2 a3 a4 a5) (fun u => xE (dC, dI) xcl (xty Z) (va_A [(A 0, xc0 Z A M), (A 1, xc1 Z A M), (A 2, xc2 Z A M), (A 3, xc3 Z A M), (A 4, xc4 Z A M), (A 5, xc5 Z A M), (A 17, xc17 Z A M)] sz) [(A 0, xc0 Z A (ap_U_rotor M u)), (A 1, xc1 Z A (ap_U_rotor M u)), (A 2, xc2 Z A (ap_U_rotor M u)), (A 3, xc3 Z A (ap_U_rotor M u)), (A 4, xc4 Z A (ap_U_rotor M u)), (A 5, xc5 Z A (ap_U_rotor M u)), (A 17, xc17 Z A (ap_U_rotor M u))]) (va_A [(A 0, xc0 Z A M), (A 1, xc1 Z A M), (A 2, xc2 Z A M), (A 3, xc3 Z A M), (A 4, xc4 Z A M), (A 5, xc5 Z A M), (A 17, xc17 Z A M)] sz)) 0 0 (va_A [(A 0, xc0 Z A M), (A 1, xc1 Z A M), (A 2, xc2 Z A M), (A 3, xc3 Z A M), (A 4, xc4 Z A M), (A 5, xc5 Z A M), (A 17, xc17 Z A M)] sz) := by
  refine Met.ofW (cc := bc_U_rotor) (maxL := 6) (ret := none) (by decide) rfl ?_
  intro p e s m args below meth c s₁ B hml hv
  obtain ⟨rfl, hsz, hP, hK, hD0, hq⟩ := hv
  have hx := B.exec
  have hb := B.bytes
  have hr := B.returns
  have hts := atoms_spec (ws := (.code y_U_rotor bc_U_rotor 6 none :: xw)) B.pre
  have htt : ∀ w ∈ xw, w.before _ s = true := fun w h => hts w (List.mem_cons_of_mem _ h)
  have hown : s.vm.findClass "CentrifugeUnit" = some m.cls := findClass_of_methodNamed B.named
  have hlocks := B.notSynchronized
  subst hsz
  have hD := hD0.self (sz := s.heap.size)
  generalize hAe : va_A [(A 0, xc0 Z A M), (A 1, xc1 Z A M), (A 2, xc2 Z A M), (A 3, xc3 Z A M), (A 4, xc4 Z A M), (A 5, xc5 Z A M), (A 17, xc17 Z A M)] s.heap.size = AA at hD ⊢
  have hA : ∀ q : Nat, s.heap.size ≤ q → AA q := fun q h => by rw [← hAe]; exact Or.inr h
  have hS : va_S AA s.heap s.heap [] := va_S.rf
  have hP : va_P (dC, dI) xcl [(A 0, .inr (9, [.ref (A 1), .ref (A 6), .ref (A 10), .ref (A 11), .ref (A 12), .ref (A 13), .ref (A 17)])), (A 1, .inr (5, [.ref (A 2), .ref (A 3), .ref (A 4), .ref (A 5), .int (M.1 0)])), (A 2, .inl (Z 0, 4, .inl (M.2.2.1 2))), (A 3, .inl (Z 0, 4, .inl (M.2.2.1 3))), (A 4, .inl (Z 0, 4, .inl (M.2.2.1 4))), (A 5, .inl (Z 0, 4, .inl (M.2.2.1 5))), (A 17, .inr (0, [.ref (A 1), .ref (A 6), .ref (A 11), .ref (A 12), .ref (A 13), .ref (A 18), .ref (A 19), .int (M.1 12), .int (M.1 13), .int (M.1 14), .int (M.1 15), .int (M.1 16), .int (M.1 17), .int (M.1 18)]))] s.heap := hP
  have hD : va_D AA [(A 0, .inr (9, [.ref (A 1), .ref (A 6), .ref (A 10), .ref (A 11), .ref (A 12), .ref (A 13), .ref (A 17)])), (A 1, .inr (5, [.ref (A 2), .ref (A 3), .ref (A 4), .ref (A 5), .int (M.1 0)])), (A 2, .inl (Z 0, 4, .inl (M.2.2.1 2))), (A 3, .inl (Z 0, 4, .inl (M.2.2.1 3))), (A 4, .inl (Z 0, 4, .inl (M.2.2.1 4))), (A 5, .inl (Z 0, 4, .inl (M.2.2.1 5))), (A 17, .inr (0, [.ref (A 1), .ref (A 6), .ref (A 11), .ref (A 12), .ref (A 13), .ref (A 18), .ref (A 19), .int (M.1 12), .int (M.1 13), .int (M.1 14), .int (M.1 15), .int (M.1 16), .int (M.1 17), .int (M.1 18)]))] := hD
  have hl := lv_entry ([.ref (A 0), .int a1, .int a2, .int a3, .int a4, .int a5]) (n := 6) (Nat.le_of_ble_eq_true rfl)
  rw [lg_entry_eq]
  generalize (lg_sl ([.ref (A 0), .int a1, .int a2, .int a3, .int a4, .int a5]) ++ List.replicate (6 - (lg_sl ([.ref (A 0), .int a1, .int a2, .int a3, .int a4, .int a5])).length) Slot.unset).toArray = ls at hl ⊢
  have hl : lv_has ls 6 [(0, .ref (A 0)), (1, .int a1), (2, .int a2), (3, .int a3), (4, .int a4), (5, .int a5)] := hl
  refine lv_iload_n hx hb d_U_rotor_0 rfl (lv_at hl 1 rfl) ?_
  refine lv_iload_n hx hb d_U_rotor_1 rfl (lv_at hl 2 rfl) ?_
  refine lv_iload_n hx hb d_U_rotor_2 rfl (lv_at hl 3 rfl) ?_
  refine lv_iload hx hb d_U_rotor_3 (lv_at hl 4 rfl) ?_
  refine lv_iload hx hb d_U_rotor_5 (lv_at hl 5 rfl) ?_
  have hPc := hP.sub (ws' := []) [] rfl
  have hDc := hD.sub (ws' := []) [] (by decide) rfl
  refine xk_p (va_runS (As := [.int a1, .int a2, .int a3, .int a4, .int a5]) (rest := []) ⟨hx, hb, hml, hown, hts⟩ (c_Rotors_allowed l dC dI Z A _ M a1 a2 a3 a4 a5) (va_cwS 5 hts (xw_S _ tw_342 tw_343 tw_2 tw_344) rfl rfl rfl (by decide +kernel) ⟨Nat.le_of_ble_eq_true rfl, Nat.le_of_ble_eq_true rfl⟩) ⟨xB_blind, fun U hU hW => ⟨rfl, xB_at hPc hK hDc hq U hU hW⟩⟩ rfl rfl hl.1 rfl (lv_room (Nat.le_of_ble_eq_true rfl)) d_U_rotor_7 ⟨Nat.le_of_ble_eq_true rfl, Nat.le_of_ble_eq_true rfl⟩) ?_
  refine lv_topi (fun z1 hz1 => ?_)
  refine lv_if_eq (tgt := 25) hx hb d_U_rotor_10 rfl (fun h2 => ?_) (fun h2 => ?_)
  · exact absurd hT (by rw [T_U_rotor, ← hz1, T_U_rotor_k1, if_pos h2]; exact (by decide : ¬ (1 : Nat) = 0))
  · refine lv_aload_n hx hb d_U_rotor_13 rfl (lv_at hl 0 rfl) ?_
    refine va_get (D := (dC, dI)) (ci := 9) (v := .ref (A 1)) (C := "CentrifugeUnit") (T := xF9) (N := 7) hx hb htt xin9 hown hK hP 0 rfl rfl 0 (by decide) (htt _ tw_283) (fun _ h9 => h9) rfl d_U_rotor_14 ?_
    refine lv_iload_n hx hb d_U_rotor_17 rfl (lv_at hl 1 rfl) ?_
    refine lv_iload_n hx hb d_U_rotor_18 rfl (lv_at hl 2 rfl) ?_
    have hPc := hP.sub (ws' := [(A 1, xc1 Z A M), (A 2, xc2 Z A M)]) [1, 2] rfl
    have hDc := hD.sub (ws' := [(A 1, xc1 Z A M), (A 2, xc2 Z A M)]) [1, 2] (by decide) rfl
    refine xk_p (va_runV (As := [.int a1, .int a2]) (rest := []) ⟨hx, hb, hml, hown, hts⟩ (c_Rotors_anotherHas l dC dI Z A _ M a1 a2) (cwV 2 hts (xw_V _ tw_345 tw_346 tw_347 tw_2 tw_348) rfl rfl rfl (by decide +kernel) ⟨Nat.le_of_ble_eq_true rfl, Nat.le_of_ble_eq_true rfl⟩) ⟨xB_blind, va_recv (q0 := 1) (ci := 5) hK hP rfl rfl, fun U hU hW => ⟨rfl, xB_at hPc hK hDc hq U hU hW⟩⟩ rfl rfl hl.1 rfl (lv_room (Nat.le_of_ble_eq_true rfl)) d_U_rotor_19 ⟨Nat.le_of_ble_eq_true rfl, Nat.le_of_ble_eq_true rfl⟩) ?_
    refine lv_topi (fun z3 hz3 => ?_)
    refine lv_if_eq (tgt := 35) hx hb d_U_rotor_22 rfl (fun h4 => ?_) (fun h4 => ?_)
    · refine lv_aload_n hx hb d_U_rotor_35 rfl (lv_at hl 0 rfl) ?_
      refine va_get (D := (dC, dI)) (ci := 9) (v := .ref (A 17)) (C := "CentrifugeUnit") (T := xF9) (N := 7) hx hb htt xin9 hown hK hP 0 rfl rfl 6 (by decide) (htt _ tw_289) (fun _ h9 => h9) rfl d_U_rotor_36 ?_
      refine lv_iconst (v := 0) hx hb d_U_rotor_39 (by decide) ?_
      have hPc := hP.sub (ws' := [(A 17, xc17 Z A M)]) [6] rfl
      have hDc := hD.sub (ws' := [(A 17, xc17 Z A M)]) [6] (by decide) rfl
      refine xk_p (va_runV (As := [.int 0]) (rest := []) ⟨hx, hb, hml, hown, hts⟩ (c_Control_takesOrders l dC dI Z A _ M 0) (cwV 1 hts (xw_V _ tw_421 tw_422 tw_423 tw_9 tw_424) rfl rfl rfl (by decide +kernel) ⟨Nat.le_of_ble_eq_true rfl, Nat.le_of_ble_eq_true rfl⟩) ⟨xB_blind, va_recv (q0 := 6) (ci := 0) hK hP rfl rfl, fun U hU hW => ⟨rfl, xB_at hPc hK hDc hq U hU hW⟩⟩ rfl rfl hl.1 rfl (lv_room (Nat.le_of_ble_eq_true rfl)) d_U_rotor_40 ⟨Nat.le_of_ble_eq_true rfl, Nat.le_of_ble_eq_true rfl⟩) ?_
      refine lv_topi (fun z5 hz5 => ?_)
      refine lv_if_ne (tgt := 56) hx hb d_U_rotor_43 rfl (fun h6 => ?_) (fun h6 => ?_)
      · refine lv_aload_n hx hb d_U_rotor_56 rfl (lv_at hl 0 rfl) ?_
        refine va_get (D := (dC, dI)) (ci := 9) (v := .ref (A 1)) (C := "CentrifugeUnit") (T := xF9) (N := 7) hx hb htt xin9 hown hK hP 0 rfl rfl 0 (by decide) (htt _ tw_283) (fun _ h9 => h9) rfl d_U_rotor_57 ?_
        refine lv_iload_n hx hb d_U_rotor_60 rfl (lv_at hl 1 rfl) ?_
        refine lv_iload_n hx hb d_U_rotor_61 rfl (lv_at hl 2 rfl) ?_
        refine lv_iload_n hx hb d_U_rotor_62 rfl (lv_at hl 3 rfl) ?_
        refine lv_iload hx hb d_U_rotor_63 (lv_at hl 4 rfl) ?_
        refine lv_iload hx hb d_U_rotor_65 (lv_at hl 5 rfl) ?_
        have hPc := hP.sub (ws' := [(A 1, xc1 Z A M), (A 2, xc2 Z A M), (A 3, xc3 Z A M), (A 4, xc4 Z A M), (A 5, xc5 Z A M)]) [1, 2, 3, 4, 5] rfl
        have hDc := hD.sub (ws' := [(A 1, xc1 Z A M), (A 2, xc2 Z A M), (A 3, xc3 Z A M), (A 4, xc4 Z A M), (A 5, xc5 Z A M)]) [1, 2, 3, 4, 5] (by decide) rfl
        refine xk_v (wc := [(A 1, xc1 Z A M), (A 2, xc2 Z A M), (A 3, xc3 Z A M), (A 4, xc4 Z A M), (A 5, xc5 Z A M)]) (wr := [(A 0, .inr (9, [.ref (A 1), .ref (A 6), .ref (A 10), .ref (A 11), .ref (A 12), .ref (A 13), .ref (A 17)])), (A 17, .inr (0, [.ref (A 1), .ref (A 6), .ref (A 11), .ref (A 12), .ref (A 13), .ref (A 18), .ref (A 19), .int (M.1 12), .int (M.1 13), .int (M.1 14), .int (M.1 15), .int (M.1 16), .int (M.1 17), .int (M.1 18)]))]) (va_runV (As := [.int a1, .int a2, .int a3, .int a4, .int a5]) (rest := []) ⟨hx, hb, hml, hown, hts⟩ (c_Rotors_keep l dC dI Z A _ M a1 a2 a3 a4 a5 (xall h2 hz1)) (cwV 5 hts (xw_V _ tw_441 tw_442 tw_443 tw_2 tw_444) rfl rfl rfl (by decide +kernel) ⟨Nat.le_of_ble_eq_true rfl, Nat.le_of_ble_eq_true rfl⟩) ⟨xB_blind, va_recv (q0 := 1) (ci := 5) hK hP rfl rfl, fun U hU hW => ⟨rfl, xB_at hPc hK hDc hq U hU hW⟩⟩ rfl rfl hl.1 rfl (lv_room (Nat.le_of_ble_eq_true rfl)) d_U_rotor_67 ⟨Nat.le_of_ble_eq_true rfl, Nat.le_of_ble_eq_true rfl⟩) hP hD hS hA [1, 2, 3, 4, 5] [0, 6] rfl rfl (by decide) (by decide) (fun u7 H locs hu7 hP hD hS => ?_)
        have hP : va_P (dC, dI) xcl [(A 0, .inr (9, [.ref (A 1), .ref (A 6), .ref (A 10), .ref (A 11), .ref (A 12), .ref (A 13), .ref (A 17)])), (A 17, .inr (0, [.ref (A 1), .ref (A 6), .ref (A 11), .ref (A 12), .ref (A 13), .ref (A 18), .ref (A 19), .int (M.1 12), .int (M.1 13), .int (M.1 14), .int (M.1 15), .int (M.1 16), .int (M.1 17), .int (M.1 18)])), (A 1, .inr (5, [.ref (A 2), .ref (A 3), .ref (A 4), .ref (A 5), .int (M.1 0)])), (A 2, .inl (Z 0, 4, .inl (u7.1))), (A 3, .inl (Z 0, 4, .inl (u7.2.1))), (A 4, .inl (Z 0, 4, .inl (u7.2.2.1))), (A 5, .inl (Z 0, 4, .inl (u7.2.2.2)))] H := hP
        have hD : va_D AA [(A 0, .inr (9, [.ref (A 1), .ref (A 6), .ref (A 10), .ref (A 11), .ref (A 12), .ref (A 13), .ref (A 17)])), (A 17, .inr (0, [.ref (A 1), .ref (A 6), .ref (A 11), .ref (A 12), .ref (A 13), .ref (A 18), .ref (A 19), .int (M.1 12), .int (M.1 13), .int (M.1 14), .int (M.1 15), .int (M.1 16), .int (M.1 17), .int (M.1 18)])), (A 1, .inr (5, [.ref (A 2), .ref (A 3), .ref (A 4), .ref (A 5), .int (M.1 0)])), (A 2, .inl (Z 0, 4, .inl (u7.1))), (A 3, .inl (Z 0, 4, .inl (u7.2.1))), (A 4, .inl (Z 0, 4, .inl (u7.2.2.1))), (A 5, .inl (Z 0, 4, .inl (u7.2.2.2)))] := hD
        have hP9 := hP.sub (ws' := [(A 0, xc0 Z A (ap_U_rotor M ((u7.1), (u7.2.1), (u7.2.2.1), (u7.2.2.2)))), (A 1, xc1 Z A (ap_U_rotor M ((u7.1), (u7.2.1), (u7.2.2.1), (u7.2.2.2)))), (A 2, xc2 Z A (ap_U_rotor M ((u7.1), (u7.2.1), (u7.2.2.1), (u7.2.2.2)))), (A 3, xc3 Z A (ap_U_rotor M ((u7.1), (u7.2.1), (u7.2.2.1), (u7.2.2.2)))), (A 4, xc4 Z A (ap_U_rotor M ((u7.1), (u7.2.1), (u7.2.2.1), (u7.2.2.2)))), (A 5, xc5 Z A (ap_U_rotor M ((u7.1), (u7.2.1), (u7.2.2.1), (u7.2.2.2)))), (A 17, xc17 Z A (ap_U_rotor M ((u7.1), (u7.2.1), (u7.2.2.1), (u7.2.2.2))))]) [0, 2, 3, 4, 5, 6, 1] rfl
        have hD9 := hD.sub (ws' := [(A 0, xc0 Z A (ap_U_rotor M ((u7.1), (u7.2.1), (u7.2.2.1), (u7.2.2.2)))), (A 1, xc1 Z A (ap_U_rotor M ((u7.1), (u7.2.1), (u7.2.2.1), (u7.2.2.2)))), (A 2, xc2 Z A (ap_U_rotor M ((u7.1), (u7.2.1), (u7.2.2.1), (u7.2.2.2)))), (A 3, xc3 Z A (ap_U_rotor M ((u7.1), (u7.2.1), (u7.2.2.1), (u7.2.2.2)))), (A 4, xc4 Z A (ap_U_rotor M ((u7.1), (u7.2.1), (u7.2.2.1), (u7.2.2.2)))), (A 5, xc5 Z A (ap_U_rotor M ((u7.1), (u7.2.1), (u7.2.2.1), (u7.2.2.2)))), (A 17, xc17 Z A (ap_U_rotor M ((u7.1), (u7.2.1), (u7.2.2.1), (u7.2.2.2))))]) [0, 2, 3, 4, 5, 6, 1] (by decide) rfl
        exact W.vret hx hb hr (fun t ht hW => ⟨⟨((u7.1), (u7.2.1), (u7.2.2.1), (u7.2.2.2)), rfl, (by rw [F_U_rotor, ← hz1, F_U_rotor_k1, if_neg h2, ← hz3, F_U_rotor_k2, if_pos h4, ← hz5, F_U_rotor_k3, if_neg h6, ← hu7, F_U_rotor_k4]), xE_at hP9 hK hD9 ht hW⟩, hS.F ht⟩) hS.2.2 d_U_rotor_70
      · exact absurd hT (by rw [T_U_rotor, ← hz1, T_U_rotor_k1, if_neg h2, ← hz3, T_U_rotor_k2, if_pos h4, ← hz5, T_U_rotor_k3, if_pos h6]; exact (by decide : ¬ (2 : Nat) = 0))
    · exact absurd hT (by rw [T_U_rotor, ← hz1, T_U_rotor_k1, if_neg h2, ← hz3, T_U_rotor_k2, if_neg h4]; exact (by decide : ¬ (1 : Nat) = 0))
abbrev bc_U_segment : ByteArray := prog_1_method_4_code
def y_U_segment : MethodName := ⟨"CentrifugeUnit", "segment", "(III)I"⟩
theorem d_U_segment_0 : decode bc_U_segment 0 = .ok (.iload_n 1, 1) := by decide +kernel
theorem d_U_segment_1 : decode bc_U_segment 1 = .ok (.iconst (-1), 1) := by decide +kernel
theorem d_U_segment_2 : decode bc_U_segment 2 = .ok (.if_icmp .eq 22, 3) := by decide +kernel
theorem d_U_segment_5 : decode bc_U_segment 5 = .ok (.iload_n 1, 1) := by decide +kernel
theorem d_U_segment_6 : decode bc_U_segment 6 = .ok (.iload_n 2, 1) := by decide +kernel
theorem d_U_segment_7 : decode bc_U_segment 7 = .ok (.iload_n 3, 1) := by decide +kernel
theorem d_U_segment_8 : decode bc_U_segment 8 = .ok (.invokestatic 97, 3) := by decide +kernel
theorem d_U_segment_11 : decode bc_U_segment 11 = .ok (.ifCond .ne 13, 3) := by decide +kernel
theorem d_U_segment_14 : decode bc_U_segment 14 = .ok (.new 68, 3) := by decide +kernel
theorem d_U_segment_17 : decode bc_U_segment 17 = .ok (.dup, 1) := by decide +kernel
theorem d_U_segment_18 : decode bc_U_segment 18 = .ok (.ldc 100, 2) := by decide +kernel
theorem d_U_segment_20 : decode bc_U_segment 20 = .ok (.invokespecial 72, 3) := by decide +kernel
theorem d_U_segment_23 : decode bc_U_segment 23 = .ok (.athrow, 1) := by decide +kernel
theorem d_U_segment_24 : decode bc_U_segment 24 = .ok (.aload_n 0, 1) := by decide +kernel
theorem d_U_segment_25 : decode bc_U_segment 25 = .ok (.getfield 56, 3) := by decide +kernel
theorem d_U_segment_28 : decode bc_U_segment 28 = .ok (.iconst 0, 1) := by decide +kernel
theorem d_U_segment_29 : decode bc_U_segment 29 = .ok (.invokevirtual 75, 3) := by decide +kernel
theorem d_U_segment_32 : decode bc_U_segment 32 = .ok (.ifCond .eq 18, 3) := by decide +kernel
theorem d_U_segment_35 : decode bc_U_segment 35 = .ok (.iload_n 1, 1) := by decide +kernel
theorem d_U_segment_36 : decode bc_U_segment 36 = .ok (.iconst (-1), 1) := by decide +kernel
theorem d_U_segment_37 : decode bc_U_segment 37 = .ok (.if_icmp .eq 23, 3) := by decide +kernel
theorem d_U_segment_40 : decode bc_U_segment 40 = .ok (.aload_n 0, 1) := by decide +kernel
theorem d_U_segment_41 : decode bc_U_segment 41 = .ok (.getfield 19, 3) := by decide +kernel
theorem d_U_segment_44 : decode bc_U_segment 44 = .ok (.invokevirtual 102, 3) := by decide +kernel
theorem d_U_segment_47 : decode bc_U_segment 47 = .ok (.ifCond .eq 13, 3) := by decide +kernel
theorem d_U_segment_50 : decode bc_U_segment 50 = .ok (.new 79, 3) := by decide +kernel
def T_U_segment_k1 (M : XM) (a1 : Int32) (a2 : Int32) (a3 : Int32) (z2 : Int32) : Nat := (if z2 = 0 then 2 else 0)
def T_U_segment_k4 (M : XM) (a1 : Int32) (a2 : Int32) (a3 : Int32) (z4 : Int32) (z6 : Int32) (z8 : Int32) : Nat := (if z8 = 0 then 0 else 2)
def T_U_segment_k3 (M : XM) (a1 : Int32) (a2 : Int32) (a3 : Int32) (z4 : Int32) (z6 : Int32) : Nat := (if z6 = 0 then 2 else (T_U_segment_k4 M a1 a2 a3 z4 z6 (F_Program_full M)))
def T_U_segment_k2 (M : XM) (a1 : Int32) (a2 : Int32) (a3 : Int32) (z4 : Int32) : Nat := (if z4 = 0 then 1 else (T_U_segment_k3 M a1 a2 a3 z4 (F_Control_takesOrders M 0)))
def T_U_segment (M : XM) (a1 : Int32) (a2 : Int32) (a3 : Int32) : Nat := (if a1 = (-1) then (T_U_segment_k1 M a1 a2 a3 (F_Control_takesOrders M 0)) else (T_U_segment_k2 M a1 a2 a3 (F_Program_allowed M a1 a2 a3)))
set_option maxHeartbeats 4000000 in
set_option maxRecDepth 100000 in
theorem t1_U_segment (l : Launch) (dC : Nat → ClassId) (dI : Nat → Nat → Nat) (Z : Nat → ClassId) (A : Nat → Nat) (sz : Nat) (M : XM) (a1 : Int32) (a2 : Int32) (a3 : Int32) (htl : l.stackTraces = false) (hT : T_U_segment M a1 a2 a3 = 1) : MetT l y_U_segment (.code y_U_segment bc_U_segment 4 (some .int) :: xw) ({ frames := 6, cells := 1, slots := 6, locals := 90 }) (va_Pc [.ref (A 0), .int a1, .int a2, .int a3] (xBs (dC, dI) xcl (xty Z) sz [(A 0, xc0 Z A M), (A 17, xc17 Z A M), (A 6, xc6 Z A M), (A 7, xc7 Z A M), (A 8, xc8 Z A M), (A 9, xc9 Z A M)])) xIAE 1 6 := by
  refine MetT.ofW (cc := bc_U_segment) (maxL := 4) (ret := (some .int)) (by decide) rfl ?_
  intro p e s m args below meth c s₁ B hml hv
  obtain ⟨rfl, ⟨hsz, hP, hK, hD0, hq⟩, hs⟩ := hv
  have hx := B.exec
  have hb := B.bytes
  have hts := atoms_spec (ws := (.code y_U_segment bc_U_segment 4 (some .int) :: xw)) B.pre
  have htt : ∀ w ∈ xw, w.before _ s = true := fun w h => hts w (List.mem_cons_of_mem _ h)
  have hown : s.vm.findClass "CentrifugeUnit" = some m.cls := findClass_of_methodNamed B.named
  have hlocks := B.notSynchronized
  subst hsz
  have hD : va_D (fun _ => True) [(A 0, .inr (9, [.ref (A 1), .ref (A 6), .ref (A 10), .ref (A 11), .ref (A 12), .ref (A 13), .ref (A 17)])), (A 17, .inr (0, [.ref (A 1), .ref (A 6), .ref (A 11), .ref (A 12), .ref (A 13), .ref (A 18), .ref (A 19), .int (M.1 12), .int (M.1 13), .int (M.1 14), .int (M.1 15), .int (M.1 16), .int (M.1 17), .int (M.1 18)])), (A 6, .inr (3, [.ref (A 7), .ref (A 8), .ref (A 9), .int (M.1 1)])), (A 7, .inl (Z 0, 12, .inl (M.2.2.1 7))), (A 8, .inl (Z 0, 12, .inl (M.2.2.1 8))), (A 9, .inl (Z 0, 12, .inl (M.2.2.1 9)))] := hD0
  have hP : va_P (dC, dI) xcl [(A 0, .inr (9, [.ref (A 1), .ref (A 6), .ref (A 10), .ref (A 11), .ref (A 12), .ref (A 13), .ref (A 17)])), (A 17, .inr (0, [.ref (A 1), .ref (A 6), .ref (A 11), .ref (A 12), .ref (A 13), .ref (A 18), .ref (A 19), .int (M.1 12), .int (M.1 13), .int (M.1 14), .int (M.1 15), .int (M.1 16), .int (M.1 17), .int (M.1 18)])), (A 6, .inr (3, [.ref (A 7), .ref (A 8), .ref (A 9), .int (M.1 1)])), (A 7, .inl (Z 0, 12, .inl (M.2.2.1 7))), (A 8, .inl (Z 0, 12, .inl (M.2.2.1 8))), (A 9, .inl (Z 0, 12, .inl (M.2.2.1 9)))] s.heap := hP
  have hl := lv_entry ([.ref (A 0), .int a1, .int a2, .int a3]) (n := 4) (Nat.le_of_ble_eq_true rfl)
  rw [lg_entry_eq]
  generalize (lg_sl ([.ref (A 0), .int a1, .int a2, .int a3]) ++ List.replicate (4 - (lg_sl ([.ref (A 0), .int a1, .int a2, .int a3])).length) Slot.unset).toArray = ls at hl ⊢
  have hl : lv_has ls 4 [(0, .ref (A 0)), (1, .int a1), (2, .int a2), (3, .int a3)] := hl
  refine lv_iload_n hx hb d_U_segment_0 rfl (lv_at hl 1 rfl) ?_
  refine lv_iconst (v := (-1)) hx hb d_U_segment_1 (by decide) ?_
  refine lv_icmp_eq (tgt := 24) hx hb d_U_segment_2 rfl (fun h1 => ?_) (fun h1 => ?_)
  · refine lv_aload_n hx hb d_U_segment_24 rfl (lv_at hl 0 rfl) ?_
    refine va_get (D := (dC, dI)) (ci := 9) (v := .ref (A 17)) (C := "CentrifugeUnit") (T := xF9) (N := 7) hx hb htt xin9 hown hK hP 0 rfl rfl 6 (by decide) (htt _ tw_289) (fun _ h9 => h9) rfl d_U_segment_25 ?_
    refine lv_iconst (v := 0) hx hb d_U_segment_28 (by decide) ?_
    have hPc := hP.sub (ws' := [(A 17, xc17 Z A M)]) [1] rfl
    have hDc := hD.sub (ws' := [(A 17, xc17 Z A M)]) [1] (by decide) rfl
    refine xk_p (va_runV (As := [.int 0]) (rest := []) ⟨hx, hb, hml, hown, hts⟩ (c_Control_takesOrders l dC dI Z A _ M 0) (cwV 1 hts (xw_V _ tw_421 tw_422 tw_423 tw_9 tw_424) rfl rfl rfl (by decide +kernel) ⟨Nat.le_of_ble_eq_true rfl, Nat.le_of_ble_eq_true rfl⟩) ⟨xB_blind, va_recv (q0 := 1) (ci := 0) hK hP rfl rfl, fun U hU hW => ⟨rfl, xB_at hPc hK hDc hq U hU hW⟩⟩ rfl rfl hl.1 rfl (lv_room (Nat.le_of_ble_eq_true rfl)) d_U_segment_29 ⟨Nat.le_of_ble_eq_true rfl, Nat.le_of_ble_eq_true rfl⟩) ?_
    refine lv_topi (fun z2 hz2 => ?_)
    refine lv_if_eq (tgt := 50) hx hb d_U_segment_32 rfl (fun h3 => ?_) (fun h3 => ?_)
    · exact absurd hT (by rw [T_U_segment, if_pos h1, ← hz2, T_U_segment_k1, if_pos h3]; exact (by decide : ¬ (2 : Nat) = 1))
    · refine lv_iload_n hx hb d_U_segment_35 rfl (lv_at hl 1 rfl) ?_
      refine lv_iconst (v := (-1)) hx hb d_U_segment_36 (by decide) ?_
      refine lv_icmp_eq (tgt := 60) hx hb d_U_segment_37 rfl (fun _ => ?_) (fun h => absurd h1 h)
      exact absurd hT (by rw [T_U_segment, if_pos h1, ← hz2, T_U_segment_k1, if_neg h3]; exact (by decide : ¬ (0 : Nat) = 1))
  · refine lv_iload_n hx hb d_U_segment_5 rfl (lv_at hl 1 rfl) ?_
    refine lv_iload_n hx hb d_U_segment_6 rfl (lv_at hl 2 rfl) ?_
    refine lv_iload_n hx hb d_U_segment_7 rfl (lv_at hl 3 rfl) ?_
    have hPc := hP.sub (ws' := []) [] rfl
    have hDc := hD.sub (ws' := []) [] (by decide) rfl
    refine xk_p (va_runS (As := [.int a1, .int a2, .int a3]) (rest := []) ⟨hx, hb, hml, hown, hts⟩ (c_Program_allowed l dC dI Z A _ M a1 a2 a3) (va_cwS 3 hts (xw_S _ tw_461 tw_462 tw_4 tw_463) rfl rfl rfl (by decide +kernel) ⟨Nat.le_of_ble_eq_true rfl, Nat.le_of_ble_eq_true rfl⟩) ⟨xB_blind, fun U hU hW => ⟨rfl, xB_at hPc hK hDc hq U hU hW⟩⟩ rfl rfl hl.1 rfl (lv_room (Nat.le_of_ble_eq_true rfl)) d_U_segment_8 ⟨Nat.le_of_ble_eq_true rfl, Nat.le_of_ble_eq_true rfl⟩) ?_
    refine lv_topi (fun z4 hz4 => ?_)
    refine lv_if_ne (tgt := 24) hx hb d_U_segment_11 rfl (fun h5 => ?_) (fun h5 => ?_)
    · refine lv_aload_n hx hb d_U_segment_24 rfl (lv_at hl 0 rfl) ?_
      refine va_get (D := (dC, dI)) (ci := 9) (v := .ref (A 17)) (C := "CentrifugeUnit") (T := xF9) (N := 7) hx hb htt xin9 hown hK hP 0 rfl rfl 6 (by decide) (htt _ tw_289) (fun _ h9 => h9) rfl d_U_segment_25 ?_
      refine lv_iconst (v := 0) hx hb d_U_segment_28 (by decide) ?_
      have hPc := hP.sub (ws' := [(A 17, xc17 Z A M)]) [1] rfl
      have hDc := hD.sub (ws' := [(A 17, xc17 Z A M)]) [1] (by decide) rfl
      refine xk_p (va_runV (As := [.int 0]) (rest := []) ⟨hx, hb, hml, hown, hts⟩ (c_Control_takesOrders l dC dI Z A _ M 0) (cwV 1 hts (xw_V _ tw_421 tw_422 tw_423 tw_9 tw_424) rfl rfl rfl (by decide +kernel) ⟨Nat.le_of_ble_eq_true rfl, Nat.le_of_ble_eq_true rfl⟩) ⟨xB_blind, va_recv (q0 := 1) (ci := 0) hK hP rfl rfl, fun U hU hW => ⟨rfl, xB_at hPc hK hDc hq U hU hW⟩⟩ rfl rfl hl.1 rfl (lv_room (Nat.le_of_ble_eq_true rfl)) d_U_segment_29 ⟨Nat.le_of_ble_eq_true rfl, Nat.le_of_ble_eq_true rfl⟩) ?_
      refine lv_topi (fun z6 hz6 => ?_)
      refine lv_if_eq (tgt := 50) hx hb d_U_segment_32 rfl (fun h7 => ?_) (fun h7 => ?_)
      · exact absurd hT (by rw [T_U_segment, if_neg h1, ← hz4, T_U_segment_k2, if_neg h5, ← hz6, T_U_segment_k3, if_pos h7]; exact (by decide : ¬ (2 : Nat) = 1))
      · refine lv_iload_n hx hb d_U_segment_35 rfl (lv_at hl 1 rfl) ?_
        refine lv_iconst (v := (-1)) hx hb d_U_segment_36 (by decide) ?_
        refine lv_icmp_eq (tgt := 60) hx hb d_U_segment_37 rfl (fun h => absurd h h1) (fun _ => ?_)
        refine lv_aload_n hx hb d_U_segment_40 rfl (lv_at hl 0 rfl) ?_
        refine va_get (D := (dC, dI)) (ci := 9) (v := .ref (A 6)) (C := "CentrifugeUnit") (T := xF9) (N := 7) hx hb htt xin9 hown hK hP 0 rfl rfl 1 (by decide) (htt _ tw_284) (fun _ h9 => h9) rfl d_U_segment_41 ?_
        have hPc := hP.sub (ws' := [(A 6, xc6 Z A M)]) [2] rfl
        have hDc := hD.sub (ws' := [(A 6, xc6 Z A M)]) [2] (by decide) rfl
        refine xk_p (va_runV (As := []) (rest := []) ⟨hx, hb, hml, hown, hts⟩ (c_Program_full l dC dI Z A _ M) (cwV 0 hts (xw_V _ tw_468 tw_469 tw_470 tw_4 tw_471) rfl rfl rfl (by decide +kernel) ⟨Nat.le_of_ble_eq_true rfl, Nat.le_of_ble_eq_true rfl⟩) ⟨xB_blind, va_recv (q0 := 2) (ci := 3) hK hP rfl rfl, fun U hU hW => ⟨rfl, xB_at hPc hK hDc hq U hU hW⟩⟩ rfl rfl hl.1 rfl (lv_room (Nat.le_of_ble_eq_true rfl)) d_U_segment_44 ⟨Nat.le_of_ble_eq_true rfl, Nat.le_of_ble_eq_true rfl⟩) ?_
        refine lv_topi (fun z8 hz8 => ?_)
        refine lv_if_eq (tgt := 60) hx hb d_U_segment_47 rfl (fun h9 => ?_) (fun h9 => ?_)
        · exact absurd hT (by rw [T_U_segment, if_neg h1, ← hz4, T_U_segment_k2, if_neg h5, ← hz6, T_U_segment_k3, if_neg h7, ← hz8, T_U_segment_k4, if_pos h9]; exact (by decide : ¬ (0 : Nat) = 1))
        · exact absurd hT (by rw [T_U_segment, if_neg h1, ← hz4, T_U_segment_k2, if_neg h5, ← hz6, T_U_segment_k3, if_neg h7, ← hz8, T_U_segment_k4, if_neg h9]; exact (by decide : ¬ (2 : Nat) = 1))
    · obtain ⟨q9, hZ⟩ := hq.2.1 ("CentrifugeUnit", 100, "no such segment") (by decide +kernel)
      exact xt_throw (names := ["java/lang/RuntimeException", "java/lang/Exception"]) hx hb htl hown (htt _ tw_353) (htt _ tw_354) (htt _ tw_16) hZ (xo_all htt hq hs xo_1_72) (by decide) (by decide) d_U_segment_14 d_U_segment_17 d_U_segment_18 d_U_segment_20 d_U_segment_23 (B.noHandlers (hts _ List.mem_cons_self)) (hl.1.trans hml.symm) hlocks (by decide) (by decide) (by decide) (by decide)
theorem d_U_segment_53 : decode bc_U_segment 53 = .ok (.dup, 1) := by decide +kernel
theorem d_U_segment_54 : decode bc_U_segment 54 = .ok (.ldc 106, 2) := by decide +kernel
theorem d_U_segment_56 : decode bc_U_segment 56 = .ok (.invokespecial 83, 3) := by decide +kernel
theorem d_U_segment_59 : decode bc_U_segment 59 = .ok (.athrow, 1) := by decide +kernel
set_option maxHeartbeats 4000000 in
set_option maxRecDepth 100000 in
theorem t2_U_segment (l : Launch) (dC : Nat → ClassId) (dI : Nat → Nat → Nat) (Z : Nat → ClassId) (A : Nat → Nat) (sz : Nat) (M : XM) (a1 : Int32) (a2 : Int32) (a3 : Int32) (htl : l.stackTraces = false) (hT : T_U_segment M a1 a2 a3 = 2) : MetT l y_U_segment (.code y_U_segment bc_U_segment 4 (some .int) :: xw) ({ frames := 6, cells := 1, slots := 6, locals := 90 }) (va_Pc [.ref (A 0), .int a1, .int a2, .int a3] (xBs (dC, dI) xcl (xty Z) sz [(A 0, xc0 Z A M), (A 17, xc17 Z A M), (A 6, xc6 Z A M), (A 7, xc7 Z A M), (A 8, xc8 Z A M), (A 9, xc9 Z A M)])) xISE 1 6 := by
  refine MetT.ofW (cc := bc_U_segment) (maxL := 4) (ret := (some .int)) (by decide) rfl ?_
  intro p e s m args below meth c s₁ B hml hv
  obtain ⟨rfl, ⟨hsz, hP, hK, hD0, hq⟩, hs⟩ := hv
  have hx := B.exec
  have hb := B.bytes
  have hts := atoms_spec (ws := (.code y_U_segment bc_U_segment 4 (some .int) :: xw)) B.pre
  have htt : ∀ w ∈ xw, w.before _ s = true := fun w h => hts w (List.mem_cons_of_mem _ h)
  have hown : s.vm.findClass "CentrifugeUnit" = some m.cls := findClass_of_methodNamed B.named
  have hlocks := B.notSynchronized
  subst hsz
  have hD : va_D (fun _ => True) [(A 0, .inr (9, [.ref (A 1), .ref (A 6), .ref (A 10), .ref (A 11), .ref (A 12), .ref (A 13), .ref (A 17)])), (A 17, .inr (0, [.ref (A 1), .ref (A 6), .ref (A 11), .ref (A 12), .ref (A 13), .ref (A 18), .ref (A 19), .int (M.1 12), .int (M.1 13), .int (M.1 14), .int (M.1 15), .int (M.1 16), .int (M.1 17), .int (M.1 18)])), (A 6, .inr (3, [.ref (A 7), .ref (A 8), .ref (A 9), .int (M.1 1)])), (A 7, .inl (Z 0, 12, .inl (M.2.2.1 7))), (A 8, .inl (Z 0, 12, .inl (M.2.2.1 8))), (A 9, .inl (Z 0, 12, .inl (M.2.2.1 9)))] := hD0
  have hP : va_P (dC, dI) xcl [(A 0, .inr (9, [.ref (A 1), .ref (A 6), .ref (A 10), .ref (A 11), .ref (A 12), .ref (A 13), .ref (A 17)])), (A 17, .inr (0, [.ref (A 1), .ref (A 6), .ref (A 11), .ref (A 12), .ref (A 13), .ref (A 18), .ref (A 19), .int (M.1 12), .int (M.1 13), .int (M.1 14), .int (M.1 15), .int (M.1 16), .int (M.1 17), .int (M.1 18)])), (A 6, .inr (3, [.ref (A 7), .ref (A 8), .ref (A 9), .int (M.1 1)])), (A 7, .inl (Z 0, 12, .inl (M.2.2.1 7))), (A 8, .inl (Z 0, 12, .inl (M.2.2.1 8))), (A 9, .inl (Z 0, 12, .inl (M.2.2.1 9)))] s.heap := hP
  have hl := lv_entry ([.ref (A 0), .int a1, .int a2, .int a3]) (n := 4) (Nat.le_of_ble_eq_true rfl)
  rw [lg_entry_eq]
  generalize (lg_sl ([.ref (A 0), .int a1, .int a2, .int a3]) ++ List.replicate (4 - (lg_sl ([.ref (A 0), .int a1, .int a2, .int a3])).length) Slot.unset).toArray = ls at hl ⊢
  have hl : lv_has ls 4 [(0, .ref (A 0)), (1, .int a1), (2, .int a2), (3, .int a3)] := hl
  refine lv_iload_n hx hb d_U_segment_0 rfl (lv_at hl 1 rfl) ?_
  refine lv_iconst (v := (-1)) hx hb d_U_segment_1 (by decide) ?_
  refine lv_icmp_eq (tgt := 24) hx hb d_U_segment_2 rfl (fun h1 => ?_) (fun h1 => ?_)
  · refine lv_aload_n hx hb d_U_segment_24 rfl (lv_at hl 0 rfl) ?_
    refine va_get (D := (dC, dI)) (ci := 9) (v := .ref (A 17)) (C := "CentrifugeUnit") (T := xF9) (N := 7) hx hb htt xin9 hown hK hP 0 rfl rfl 6 (by decide) (htt _ tw_289) (fun _ h9 => h9) rfl d_U_segment_25 ?_
    refine lv_iconst (v := 0) hx hb d_U_segment_28 (by decide) ?_
    have hPc := hP.sub (ws' := [(A 17, xc17 Z A M)]) [1] rfl
    have hDc := hD.sub (ws' := [(A 17, xc17 Z A M)]) [1] (by decide) rfl
    refine xk_p (va_runV (As := [.int 0]) (rest := []) ⟨hx, hb, hml, hown, hts⟩ (c_Control_takesOrders l dC dI Z A _ M 0) (cwV 1 hts (xw_V _ tw_421 tw_422 tw_423 tw_9 tw_424) rfl rfl rfl (by decide +kernel) ⟨Nat.le_of_ble_eq_true rfl, Nat.le_of_ble_eq_true rfl⟩) ⟨xB_blind, va_recv (q0 := 1) (ci := 0) hK hP rfl rfl, fun U hU hW => ⟨rfl, xB_at hPc hK hDc hq U hU hW⟩⟩ rfl rfl hl.1 rfl (lv_room (Nat.le_of_ble_eq_true rfl)) d_U_segment_29 ⟨Nat.le_of_ble_eq_true rfl, Nat.le_of_ble_eq_true rfl⟩) ?_
    refine lv_topi (fun z2 hz2 => ?_)
    refine lv_if_eq (tgt := 50) hx hb d_U_segment_32 rfl (fun h3 => ?_) (fun h3 => ?_)
    · obtain ⟨q9, hZ⟩ := hq.2.1 ("CentrifugeUnit", 106, "not idle, no power, or the program is full") (by decide +kernel)
      exact xt_throw (names := ["java/lang/RuntimeException", "java/lang/Exception"]) hx hb htl hown (htt _ tw_425) (htt _ tw_426) (htt _ tw_17) hZ (xo_all htt hq hs xo_2_83) (by decide) (by decide) d_U_segment_50 d_U_segment_53 d_U_segment_54 d_U_segment_56 d_U_segment_59 (B.noHandlers (hts _ List.mem_cons_self)) (hl.1.trans hml.symm) hlocks (by decide) (by decide) (by decide) (by decide)
    · refine lv_iload_n hx hb d_U_segment_35 rfl (lv_at hl 1 rfl) ?_
      refine lv_iconst (v := (-1)) hx hb d_U_segment_36 (by decide) ?_
      refine lv_icmp_eq (tgt := 60) hx hb d_U_segment_37 rfl (fun _ => ?_) (fun h => absurd h1 h)
      exact absurd hT (by rw [T_U_segment, if_pos h1, ← hz2, T_U_segment_k1, if_neg h3]; exact (by decide : ¬ (0 : Nat) = 2))
  · refine lv_iload_n hx hb d_U_segment_5 rfl (lv_at hl 1 rfl) ?_
    refine lv_iload_n hx hb d_U_segment_6 rfl (lv_at hl 2 rfl) ?_
    refine lv_iload_n hx hb d_U_segment_7 rfl (lv_at hl 3 rfl) ?_
    have hPc := hP.sub (ws' := []) [] rfl
    have hDc := hD.sub (ws' := []) [] (by decide) rfl
    refine xk_p (va_runS (As := [.int a1, .int a2, .int a3]) (rest := []) ⟨hx, hb, hml, hown, hts⟩ (c_Program_allowed l dC dI Z A _ M a1 a2 a3) (va_cwS 3 hts (xw_S _ tw_461 tw_462 tw_4 tw_463) rfl rfl rfl (by decide +kernel) ⟨Nat.le_of_ble_eq_true rfl, Nat.le_of_ble_eq_true rfl⟩) ⟨xB_blind, fun U hU hW => ⟨rfl, xB_at hPc hK hDc hq U hU hW⟩⟩ rfl rfl hl.1 rfl (lv_room (Nat.le_of_ble_eq_true rfl)) d_U_segment_8 ⟨Nat.le_of_ble_eq_true rfl, Nat.le_of_ble_eq_true rfl⟩) ?_
    refine lv_topi (fun z4 hz4 => ?_)
    refine lv_if_ne (tgt := 24) hx hb d_U_segment_11 rfl (fun h5 => ?_) (fun h5 => ?_)
    · refine lv_aload_n hx hb d_U_segment_24 rfl (lv_at hl 0 rfl) ?_
      refine va_get (D := (dC, dI)) (ci := 9) (v := .ref (A 17)) (C := "CentrifugeUnit") (T := xF9) (N := 7) hx hb htt xin9 hown hK hP 0 rfl rfl 6 (by decide) (htt _ tw_289) (fun _ h9 => h9) rfl d_U_segment_25 ?_
      refine lv_iconst (v := 0) hx hb d_U_segment_28 (by decide) ?_
      have hPc := hP.sub (ws' := [(A 17, xc17 Z A M)]) [1] rfl
      have hDc := hD.sub (ws' := [(A 17, xc17 Z A M)]) [1] (by decide) rfl
      refine xk_p (va_runV (As := [.int 0]) (rest := []) ⟨hx, hb, hml, hown, hts⟩ (c_Control_takesOrders l dC dI Z A _ M 0) (cwV 1 hts (xw_V _ tw_421 tw_422 tw_423 tw_9 tw_424) rfl rfl rfl (by decide +kernel) ⟨Nat.le_of_ble_eq_true rfl, Nat.le_of_ble_eq_true rfl⟩) ⟨xB_blind, va_recv (q0 := 1) (ci := 0) hK hP rfl rfl, fun U hU hW => ⟨rfl, xB_at hPc hK hDc hq U hU hW⟩⟩ rfl rfl hl.1 rfl (lv_room (Nat.le_of_ble_eq_true rfl)) d_U_segment_29 ⟨Nat.le_of_ble_eq_true rfl, Nat.le_of_ble_eq_true rfl⟩) ?_
      refine lv_topi (fun z6 hz6 => ?_)
      refine lv_if_eq (tgt := 50) hx hb d_U_segment_32 rfl (fun h7 => ?_) (fun h7 => ?_)
      · obtain ⟨q9, hZ⟩ := hq.2.1 ("CentrifugeUnit", 106, "not idle, no power, or the program is full") (by decide +kernel)
        exact xt_throw (names := ["java/lang/RuntimeException", "java/lang/Exception"]) hx hb htl hown (htt _ tw_425) (htt _ tw_426) (htt _ tw_17) hZ (xo_all htt hq hs xo_2_83) (by decide) (by decide) d_U_segment_50 d_U_segment_53 d_U_segment_54 d_U_segment_56 d_U_segment_59 (B.noHandlers (hts _ List.mem_cons_self)) (hl.1.trans hml.symm) hlocks (by decide) (by decide) (by decide) (by decide)
      · refine lv_iload_n hx hb d_U_segment_35 rfl (lv_at hl 1 rfl) ?_
        refine lv_iconst (v := (-1)) hx hb d_U_segment_36 (by decide) ?_
        refine lv_icmp_eq (tgt := 60) hx hb d_U_segment_37 rfl (fun h => absurd h h1) (fun _ => ?_)
        refine lv_aload_n hx hb d_U_segment_40 rfl (lv_at hl 0 rfl) ?_
        refine va_get (D := (dC, dI)) (ci := 9) (v := .ref (A 6)) (C := "CentrifugeUnit") (T := xF9) (N := 7) hx hb htt xin9 hown hK hP 0 rfl rfl 1 (by decide) (htt _ tw_284) (fun _ h9 => h9) rfl d_U_segment_41 ?_
        have hPc := hP.sub (ws' := [(A 6, xc6 Z A M)]) [2] rfl
        have hDc := hD.sub (ws' := [(A 6, xc6 Z A M)]) [2] (by decide) rfl
        refine xk_p (va_runV (As := []) (rest := []) ⟨hx, hb, hml, hown, hts⟩ (c_Program_full l dC dI Z A _ M) (cwV 0 hts (xw_V _ tw_468 tw_469 tw_470 tw_4 tw_471) rfl rfl rfl (by decide +kernel) ⟨Nat.le_of_ble_eq_true rfl, Nat.le_of_ble_eq_true rfl⟩) ⟨xB_blind, va_recv (q0 := 2) (ci := 3) hK hP rfl rfl, fun U hU hW => ⟨rfl, xB_at hPc hK hDc hq U hU hW⟩⟩ rfl rfl hl.1 rfl (lv_room (Nat.le_of_ble_eq_true rfl)) d_U_segment_44 ⟨Nat.le_of_ble_eq_true rfl, Nat.le_of_ble_eq_true rfl⟩) ?_
        refine lv_topi (fun z8 hz8 => ?_)
        refine lv_if_eq (tgt := 60) hx hb d_U_segment_47 rfl (fun h9 => ?_) (fun h9 => ?_)
        · exact absurd hT (by rw [T_U_segment, if_neg h1, ← hz4, T_U_segment_k2, if_neg h5, ← hz6, T_U_segment_k3, if_neg h7, ← hz8, T_U_segment_k4, if_pos h9]; exact (by decide : ¬ (0 : Nat) = 2))
        · obtain ⟨q9, hZ⟩ := hq.2.1 ("CentrifugeUnit", 106, "not idle, no power, or the program is full") (by decide +kernel)
          exact xt_throw (names := ["java/lang/RuntimeException", "java/lang/Exception"]) hx hb htl hown (htt _ tw_425) (htt _ tw_426) (htt _ tw_17) hZ (xo_all htt hq hs xo_2_83) (by decide) (by decide) d_U_segment_50 d_U_segment_53 d_U_segment_54 d_U_segment_56 d_U_segment_59 (B.noHandlers (hts _ List.mem_cons_self)) (hl.1.trans hml.symm) hlocks (by decide) (by decide) (by decide) (by decide)
    · exact absurd hT (by rw [T_U_segment, if_neg h1, ← hz4, T_U_segment_k2, if_pos h5]; exact (by decide : ¬ (1 : Nat) = 2))
theorem d_U_segment_60 : decode bc_U_segment 60 = .ok (.iload_n 1, 1) := by decide +kernel
theorem d_U_segment_61 : decode bc_U_segment 61 = .ok (.iconst (-1), 1) := by decide +kernel
theorem d_U_segment_62 : decode bc_U_segment 62 = .ok (.if_icmp .ne 14, 3) := by decide +kernel
theorem d_U_segment_65 : decode bc_U_segment 65 = .ok (.aload_n 0, 1) := by decide +kernel
theorem d_U_segment_66 : decode bc_U_segment 66 = .ok (.getfield 19, 3) := by decide +kernel
theorem d_U_segment_69 : decode bc_U_segment 69 = .ok (.iconst 0, 1) := by decide +kernel
theorem d_U_segment_70 : decode bc_U_segment 70 = .ok (.putfield 108, 3) := by decide +kernel
theorem d_U_segment_73 : decode bc_U_segment 73 = .ok (.goto 13, 3) := by decide +kernel
theorem d_U_segment_76 : decode bc_U_segment 76 = .ok (.aload_n 0, 1) := by decide +kernel
theorem d_U_segment_77 : decode bc_U_segment 77 = .ok (.getfield 19, 3) := by decide +kernel
theorem d_U_segment_80 : decode bc_U_segment 80 = .ok (.iload_n 1, 1) := by decide +kernel
theorem d_U_segment_81 : decode bc_U_segment 81 = .ok (.iload_n 2, 1) := by decide +kernel
theorem d_U_segment_82 : decode bc_U_segment 82 = .ok (.iload_n 3, 1) := by decide +kernel
theorem d_U_segment_83 : decode bc_U_segment 83 = .ok (.invokevirtual 111, 3) := by decide +kernel
theorem d_U_segment_86 : decode bc_U_segment 86 = .ok (.aload_n 0, 1) := by decide +kernel
theorem d_U_segment_87 : decode bc_U_segment 87 = .ok (.getfield 19, 3) := by decide +kernel
theorem d_U_segment_90 : decode bc_U_segment 90 = .ok (.getfield 108, 3) := by decide +kernel
theorem d_U_segment_93 : decode bc_U_segment 93 = .ok (.ireturn, 1) := by decide +kernel
abbrev ap_U_segment (M : XM) (u : (Int32 × (Nat → Int32) × (Nat → Int32) × (Nat → Int32))) : XM := ((va_up M.1 1 (u.1)), M.2.1, (va_up (va_up (va_up M.2.2.1 7 (u.2.1)) 8 (u.2.2.1)) 9 (u.2.2.2)), M.2.2.2)
def F_U_segment_k1 (M : XM) (a1 : Int32) (a2 : Int32) (a3 : Int32) (z2 : Int32) : Int32 × (Int32 × (Nat → Int32) × (Nat → Int32) × (Nat → Int32)) := (if z2 = 0 then (0, ((M.1 1), (M.2.2.1 7), (M.2.2.1 8), (M.2.2.1 9))) else (0, (0, (M.2.2.1 7), (M.2.2.1 8), (M.2.2.1 9))))
def F_U_segment_k5 (M : XM) (a1 : Int32) (a2 : Int32) (a3 : Int32) (z4 : Int32) (z6 : Int32) (z8 : Int32) (u10 : ((Nat → Int32) × (Nat → Int32) × (Nat → Int32) × Int32)) : Int32 × (Int32 × (Nat → Int32) × (Nat → Int32) × (Nat → Int32)) := ((u10.2.2.2), ((u10.2.2.2), (u10.1), (u10.2.1), (u10.2.2.1)))
def F_U_segment_k4 (M : XM) (a1 : Int32) (a2 : Int32) (a3 : Int32) (z4 : Int32) (z6 : Int32) (z8 : Int32) : Int32 × (Int32 × (Nat → Int32) × (Nat → Int32) × (Nat → Int32)) := (if z8 = 0 then (F_U_segment_k5 M a1 a2 a3 z4 z6 z8 (F_Program_add M a1 a2 a3)) else (0, ((M.1 1), (M.2.2.1 7), (M.2.2.1 8), (M.2.2.1 9))))
def F_U_segment_k3 (M : XM) (a1 : Int32) (a2 : Int32) (a3 : Int32) (z4 : Int32) (z6 : Int32) : Int32 × (Int32 × (Nat → Int32) × (Nat → Int32) × (Nat → Int32)) := (if z6 = 0 then (0, ((M.1 1), (M.2.2.1 7), (M.2.2.1 8), (M.2.2.1 9))) else (F_U_segment_k4 M a1 a2 a3 z4 z6 (F_Program_full M)))
def F_U_segment_k2 (M : XM) (a1 : Int32) (a2 : Int32) (a3 : Int32) (z4 : Int32) : Int32 × (Int32 × (Nat → Int32) × (Nat → Int32) × (Nat → Int32)) := (if z4 = 0 then (0, ((M.1 1), (M.2.2.1 7), (M.2.2.1 8), (M.2.2.1 9))) else (F_U_segment_k3 M a1 a2 a3 z4 (F_Control_takesOrders M 0)))
def F_U_segment (M : XM) (a1 : Int32) (a2 : Int32) (a3 : Int32) : Int32 × (Int32 × (Nat → Int32) × (Nat → Int32) × (Nat → Int32)) := (if a1 = (-1) then (F_U_segment_k1 M a1 a2 a3 (F_Control_takesOrders M 0)) else (F_U_segment_k2 M a1 a2 a3 (F_Program_allowed M a1 a2 a3)))
set_option maxHeartbeats 4000000 in
set_option maxRecDepth 100000 in
theorem c_U_segment (l : Launch) (dC : Nat → ClassId) (dI : Nat → Nat → Nat) (Z : Nat → ClassId) (A : Nat → Nat) (sz : Nat) (M : XM) (a1 : Int32) (a2 : Int32) (a3 : Int32) (hc : 0 ≤ (M.1 1)) (hT : T_U_segment M a1 a2 a3 = 0) : Met l y_U_segment (.code y_U_segment bc_U_segment 4 (some .int) :: xw) ({ frames := 2, cells := 0, slots := 0, locals := 44 }) (va_Pc [.ref (A 0), .int a1, .int a2, .int a3] (xB (dC, dI) xcl (xty Z) sz [(A 0, xc0 Z A M), (A 17, xc17 Z A M), (A 6, xc6 Z A M), (A 7, xc7 Z A M), (A 8, xc8 Z A M), (A 9, xc9 Z A M)])) (va_Qi (fun (r : Int32) (u : (Int32 × (Nat → Int32) × (Nat → Int32) × (Nat → Int32))) => (r, u) = F_U_segment M a1 a2 a3) (fun u => xE (dC, dI) xcl (xty Z) (va_A [(A 0, xc0 Z A M), (A 17, xc17 Z A M), (A 6, xc6 Z A M), (A 7, xc7 Z A M), (A 8, xc8 Z A M), (A 9, xc9 Z A M)] sz) [(A 0, xc0 Z A (ap_U_segment M u)), (A 17, xc17 Z A (ap_U_segment M u)), (A 6, xc6 Z A (ap_U_segment M u)), (A 7, xc7 Z A (ap_U_segment M u)), (A 8, xc8 Z A (ap_U_segment M u)), (A 9, xc9 Z A (ap_U_segment M u))]) (va_A [(A 0, xc0 Z A M), (A 17, xc17 Z A M), (A 6, xc6 Z A M), (A 7, xc7 Z A M), (A 8, xc8 Z A M), (A 9, xc9 Z A M)] sz)) 0 0 (va_A [(A 0, xc0 Z A M), (A 17, xc17 Z A M), (A 6, xc6 Z A M), (A 7, xc7 Z A M), (A 8, xc8 Z A M), (A 9, xc9 Z A M)] sz) := by
  refine Met.ofW (cc := bc_U_segment) (maxL := 4) (ret := (some .int)) (by decide) rfl ?_
  intro p e s m args below meth c s₁ B hml hv
  obtain ⟨rfl, hsz, hP, hK, hD0, hq⟩ := hv
  have hx := B.exec
  have hb := B.bytes
  have hr := B.returns
  have hts := atoms_spec (ws := (.code y_U_segment bc_U_segment 4 (some .int) :: xw)) B.pre
  have htt : ∀ w ∈ xw, w.before _ s = true := fun w h => hts w (List.mem_cons_of_mem _ h)
  have hown : s.vm.findClass "CentrifugeUnit" = some m.cls := findClass_of_methodNamed B.named
  have hlocks := B.notSynchronized
  subst hsz
  have hD := hD0.self (sz := s.heap.size)
  generalize hAe : va_A [(A 0, xc0 Z A M), (A 17, xc17 Z A M), (A 6, xc6 Z A M), (A 7, xc7 Z A M), (A 8, xc8 Z A M), (A 9, xc9 Z A M)] s.heap.size = AA at hD ⊢
  have hA : ∀ q : Nat, s.heap.size ≤ q → AA q := fun q h => by rw [← hAe]; exact Or.inr h
  have hS : va_S AA s.heap s.heap [] := va_S.rf
  have hP : va_P (dC, dI) xcl [(A 0, .inr (9, [.ref (A 1), .ref (A 6), .ref (A 10), .ref (A 11), .ref (A 12), .ref (A 13), .ref (A 17)])), (A 17, .inr (0, [.ref (A 1), .ref (A 6), .ref (A 11), .ref (A 12), .ref (A 13), .ref (A 18), .ref (A 19), .int (M.1 12), .int (M.1 13), .int (M.1 14), .int (M.1 15), .int (M.1 16), .int (M.1 17), .int (M.1 18)])), (A 6, .inr (3, [.ref (A 7), .ref (A 8), .ref (A 9), .int (M.1 1)])), (A 7, .inl (Z 0, 12, .inl (M.2.2.1 7))), (A 8, .inl (Z 0, 12, .inl (M.2.2.1 8))), (A 9, .inl (Z 0, 12, .inl (M.2.2.1 9)))] s.heap := hP
  have hD : va_D AA [(A 0, .inr (9, [.ref (A 1), .ref (A 6), .ref (A 10), .ref (A 11), .ref (A 12), .ref (A 13), .ref (A 17)])), (A 17, .inr (0, [.ref (A 1), .ref (A 6), .ref (A 11), .ref (A 12), .ref (A 13), .ref (A 18), .ref (A 19), .int (M.1 12), .int (M.1 13), .int (M.1 14), .int (M.1 15), .int (M.1 16), .int (M.1 17), .int (M.1 18)])), (A 6, .inr (3, [.ref (A 7), .ref (A 8), .ref (A 9), .int (M.1 1)])), (A 7, .inl (Z 0, 12, .inl (M.2.2.1 7))), (A 8, .inl (Z 0, 12, .inl (M.2.2.1 8))), (A 9, .inl (Z 0, 12, .inl (M.2.2.1 9)))] := hD
  have hl := lv_entry ([.ref (A 0), .int a1, .int a2, .int a3]) (n := 4) (Nat.le_of_ble_eq_true rfl)
  rw [lg_entry_eq]
  generalize (lg_sl ([.ref (A 0), .int a1, .int a2, .int a3]) ++ List.replicate (4 - (lg_sl ([.ref (A 0), .int a1, .int a2, .int a3])).length) Slot.unset).toArray = ls at hl ⊢
  have hl : lv_has ls 4 [(0, .ref (A 0)), (1, .int a1), (2, .int a2), (3, .int a3)] := hl
  refine lv_iload_n hx hb d_U_segment_0 rfl (lv_at hl 1 rfl) ?_
  refine lv_iconst (v := (-1)) hx hb d_U_segment_1 (by decide) ?_
  refine lv_icmp_eq (tgt := 24) hx hb d_U_segment_2 rfl (fun h1 => ?_) (fun h1 => ?_)
  · refine lv_aload_n hx hb d_U_segment_24 rfl (lv_at hl 0 rfl) ?_
    refine va_get (D := (dC, dI)) (ci := 9) (v := .ref (A 17)) (C := "CentrifugeUnit") (T := xF9) (N := 7) hx hb htt xin9 hown hK hP 0 rfl rfl 6 (by decide) (htt _ tw_289) (fun _ h9 => h9) rfl d_U_segment_25 ?_
    refine lv_iconst (v := 0) hx hb d_U_segment_28 (by decide) ?_
    have hPc := hP.sub (ws' := [(A 17, xc17 Z A M)]) [1] rfl
    have hDc := hD.sub (ws' := [(A 17, xc17 Z A M)]) [1] (by decide) rfl
    refine xk_p (va_runV (As := [.int 0]) (rest := []) ⟨hx, hb, hml, hown, hts⟩ (c_Control_takesOrders l dC dI Z A _ M 0) (cwV 1 hts (xw_V _ tw_421 tw_422 tw_423 tw_9 tw_424) rfl rfl rfl (by decide +kernel) ⟨Nat.le_of_ble_eq_true rfl, Nat.le_of_ble_eq_true rfl⟩) ⟨xB_blind, va_recv (q0 := 1) (ci := 0) hK hP rfl rfl, fun U hU hW => ⟨rfl, xB_at hPc hK hDc hq U hU hW⟩⟩ rfl rfl hl.1 rfl (lv_room (Nat.le_of_ble_eq_true rfl)) d_U_segment_29 ⟨Nat.le_of_ble_eq_true rfl, Nat.le_of_ble_eq_true rfl⟩) ?_
    refine lv_topi (fun z2 hz2 => ?_)
    refine lv_if_eq (tgt := 50) hx hb d_U_segment_32 rfl (fun h3 => ?_) (fun h3 => ?_)
    · exact absurd hT (by rw [T_U_segment, if_pos h1, ← hz2, T_U_segment_k1, if_pos h3]; exact (by decide : ¬ (2 : Nat) = 0))
    · refine lv_iload_n hx hb d_U_segment_35 rfl (lv_at hl 1 rfl) ?_
      refine lv_iconst (v := (-1)) hx hb d_U_segment_36 (by decide) ?_
      refine lv_icmp_eq (tgt := 60) hx hb d_U_segment_37 rfl (fun _ => ?_) (fun h => absurd h1 h)
      refine lv_iload_n hx hb d_U_segment_60 rfl (lv_at hl 1 rfl) ?_
      refine lv_iconst (v := (-1)) hx hb d_U_segment_61 (by decide) ?_
      refine lv_icmp_ne (tgt := 76) hx hb d_U_segment_62 rfl (fun h => absurd h1 h) (fun _ => ?_)
      refine lv_aload_n hx hb d_U_segment_65 rfl (lv_at hl 0 rfl) ?_
      refine va_get (D := (dC, dI)) (ci := 9) (v := .ref (A 6)) (C := "CentrifugeUnit") (T := xF9) (N := 7) hx hb htt xin9 hown hK hP 0 rfl rfl 1 (by decide) (htt _ tw_284) (fun _ h9 => h9) rfl d_U_segment_66 ?_
      refine lv_iconst (v := 0) hx hb d_U_segment_69 (by decide) ?_
      refine va_put (D := (dC, dI)) (ci := 3) (v := .int 0) (ty := .int) (C := "CentrifugeUnit$Program") (T := xF3) (N := 4) hx hb htt xin3 xT3 xTo3 xNm3 hown hK hP hD hS 2 rfl rfl 3 (by decide) (htt _ tw_68) (fun _ h9 => h9) rfl (by decide +kernel) rfl rfl (Nat.le_of_ble_eq_true rfl) d_U_segment_70 (fun H locs hP hD hS => ?_)
      have hP : va_P (dC, dI) xcl [(A 0, .inr (9, [.ref (A 1), .ref (A 6), .ref (A 10), .ref (A 11), .ref (A 12), .ref (A 13), .ref (A 17)])), (A 17, .inr (0, [.ref (A 1), .ref (A 6), .ref (A 11), .ref (A 12), .ref (A 13), .ref (A 18), .ref (A 19), .int (M.1 12), .int (M.1 13), .int (M.1 14), .int (M.1 15), .int (M.1 16), .int (M.1 17), .int (M.1 18)])), (A 6, .inr (3, [.ref (A 7), .ref (A 8), .ref (A 9), .int 0])), (A 7, .inl (Z 0, 12, .inl (M.2.2.1 7))), (A 8, .inl (Z 0, 12, .inl (M.2.2.1 8))), (A 9, .inl (Z 0, 12, .inl (M.2.2.1 9)))] H := hP
      have hD : va_D AA [(A 0, .inr (9, [.ref (A 1), .ref (A 6), .ref (A 10), .ref (A 11), .ref (A 12), .ref (A 13), .ref (A 17)])), (A 17, .inr (0, [.ref (A 1), .ref (A 6), .ref (A 11), .ref (A 12), .ref (A 13), .ref (A 18), .ref (A 19), .int (M.1 12), .int (M.1 13), .int (M.1 14), .int (M.1 15), .int (M.1 16), .int (M.1 17), .int (M.1 18)])), (A 6, .inr (3, [.ref (A 7), .ref (A 8), .ref (A 9), .int 0])), (A 7, .inl (Z 0, 12, .inl (M.2.2.1 7))), (A 8, .inl (Z 0, 12, .inl (M.2.2.1 8))), (A 9, .inl (Z 0, 12, .inl (M.2.2.1 9)))] := hD
      refine lv_goto (tgt := 86) hx hb d_U_segment_73 rfl ?_
      refine lv_aload_n hx hb d_U_segment_86 rfl (lv_at hl 0 rfl) ?_
      refine va_get (D := (dC, dI)) (ci := 9) (v := .ref (A 6)) (C := "CentrifugeUnit") (T := xF9) (N := 7) hx hb htt xin9 hown hK hP 0 rfl rfl 1 (by decide) (htt _ tw_284) (fun _ h9 => h9) rfl d_U_segment_87 ?_
      refine va_get (D := (dC, dI)) (ci := 3) (v := .int 0) (C := "CentrifugeUnit$Program") (T := xF3) (N := 4) hx hb htt xin3 hown hK hP 2 rfl rfl 3 (by decide) (htt _ tw_68) (fun _ h9 => h9) rfl d_U_segment_90 ?_
      have hP9 := hP.sub (ws' := [(A 0, xc0 Z A (ap_U_segment M (0, (M.2.2.1 7), (M.2.2.1 8), (M.2.2.1 9)))), (A 17, xc17 Z A (ap_U_segment M (0, (M.2.2.1 7), (M.2.2.1 8), (M.2.2.1 9)))), (A 6, xc6 Z A (ap_U_segment M (0, (M.2.2.1 7), (M.2.2.1 8), (M.2.2.1 9)))), (A 7, xc7 Z A (ap_U_segment M (0, (M.2.2.1 7), (M.2.2.1 8), (M.2.2.1 9)))), (A 8, xc8 Z A (ap_U_segment M (0, (M.2.2.1 7), (M.2.2.1 8), (M.2.2.1 9)))), (A 9, xc9 Z A (ap_U_segment M (0, (M.2.2.1 7), (M.2.2.1 8), (M.2.2.1 9))))]) [0, 1, 2, 3, 4, 5] rfl
      have hD9 := hD.sub (ws' := [(A 0, xc0 Z A (ap_U_segment M (0, (M.2.2.1 7), (M.2.2.1 8), (M.2.2.1 9)))), (A 17, xc17 Z A (ap_U_segment M (0, (M.2.2.1 7), (M.2.2.1 8), (M.2.2.1 9)))), (A 6, xc6 Z A (ap_U_segment M (0, (M.2.2.1 7), (M.2.2.1 8), (M.2.2.1 9)))), (A 7, xc7 Z A (ap_U_segment M (0, (M.2.2.1 7), (M.2.2.1 8), (M.2.2.1 9)))), (A 8, xc8 Z A (ap_U_segment M (0, (M.2.2.1 7), (M.2.2.1 8), (M.2.2.1 9)))), (A 9, xc9 Z A (ap_U_segment M (0, (M.2.2.1 7), (M.2.2.1 8), (M.2.2.1 9))))]) [0, 1, 2, 3, 4, 5] (by decide) rfl
      exact W.iret hx hb hr (fun t ht hW => ⟨⟨0, (0, (M.2.2.1 7), (M.2.2.1 8), (M.2.2.1 9)), rfl, (by rw [F_U_segment, if_pos h1, ← hz2, F_U_segment_k1, if_neg h3]), xE_at hP9 hK hD9 ht hW⟩, hS.F ht⟩) hS.2.2 d_U_segment_93
  · refine lv_iload_n hx hb d_U_segment_5 rfl (lv_at hl 1 rfl) ?_
    refine lv_iload_n hx hb d_U_segment_6 rfl (lv_at hl 2 rfl) ?_
    refine lv_iload_n hx hb d_U_segment_7 rfl (lv_at hl 3 rfl) ?_
    have hPc := hP.sub (ws' := []) [] rfl
    have hDc := hD.sub (ws' := []) [] (by decide) rfl
    refine xk_p (va_runS (As := [.int a1, .int a2, .int a3]) (rest := []) ⟨hx, hb, hml, hown, hts⟩ (c_Program_allowed l dC dI Z A _ M a1 a2 a3) (va_cwS 3 hts (xw_S _ tw_461 tw_462 tw_4 tw_463) rfl rfl rfl (by decide +kernel) ⟨Nat.le_of_ble_eq_true rfl, Nat.le_of_ble_eq_true rfl⟩) ⟨xB_blind, fun U hU hW => ⟨rfl, xB_at hPc hK hDc hq U hU hW⟩⟩ rfl rfl hl.1 rfl (lv_room (Nat.le_of_ble_eq_true rfl)) d_U_segment_8 ⟨Nat.le_of_ble_eq_true rfl, Nat.le_of_ble_eq_true rfl⟩) ?_
    refine lv_topi (fun z4 hz4 => ?_)
    refine lv_if_ne (tgt := 24) hx hb d_U_segment_11 rfl (fun h5 => ?_) (fun h5 => ?_)
    · refine lv_aload_n hx hb d_U_segment_24 rfl (lv_at hl 0 rfl) ?_
      refine va_get (D := (dC, dI)) (ci := 9) (v := .ref (A 17)) (C := "CentrifugeUnit") (T := xF9) (N := 7) hx hb htt xin9 hown hK hP 0 rfl rfl 6 (by decide) (htt _ tw_289) (fun _ h9 => h9) rfl d_U_segment_25 ?_
      refine lv_iconst (v := 0) hx hb d_U_segment_28 (by decide) ?_
      have hPc := hP.sub (ws' := [(A 17, xc17 Z A M)]) [1] rfl
      have hDc := hD.sub (ws' := [(A 17, xc17 Z A M)]) [1] (by decide) rfl
      refine xk_p (va_runV (As := [.int 0]) (rest := []) ⟨hx, hb, hml, hown, hts⟩ (c_Control_takesOrders l dC dI Z A _ M 0) (cwV 1 hts (xw_V _ tw_421 tw_422 tw_423 tw_9 tw_424) rfl rfl rfl (by decide +kernel) ⟨Nat.le_of_ble_eq_true rfl, Nat.le_of_ble_eq_true rfl⟩) ⟨xB_blind, va_recv (q0 := 1) (ci := 0) hK hP rfl rfl, fun U hU hW => ⟨rfl, xB_at hPc hK hDc hq U hU hW⟩⟩ rfl rfl hl.1 rfl (lv_room (Nat.le_of_ble_eq_true rfl)) d_U_segment_29 ⟨Nat.le_of_ble_eq_true rfl, Nat.le_of_ble_eq_true rfl⟩) ?_
      refine lv_topi (fun z6 hz6 => ?_)
      refine lv_if_eq (tgt := 50) hx hb d_U_segment_32 rfl (fun h7 => ?_) (fun h7 => ?_)
      · exact absurd hT (by rw [T_U_segment, if_neg h1, ← hz4, T_U_segment_k2, if_neg h5, ← hz6, T_U_segment_k3, if_pos h7]; exact (by decide : ¬ (2 : Nat) = 0))
      · refine lv_iload_n hx hb d_U_segment_35 rfl (lv_at hl 1 rfl) ?_
        refine lv_iconst (v := (-1)) hx hb d_U_segment_36 (by decide) ?_
        refine lv_icmp_eq (tgt := 60) hx hb d_U_segment_37 rfl (fun h => absurd h h1) (fun _ => ?_)
        refine lv_aload_n hx hb d_U_segment_40 rfl (lv_at hl 0 rfl) ?_
        refine va_get (D := (dC, dI)) (ci := 9) (v := .ref (A 6)) (C := "CentrifugeUnit") (T := xF9) (N := 7) hx hb htt xin9 hown hK hP 0 rfl rfl 1 (by decide) (htt _ tw_284) (fun _ h9 => h9) rfl d_U_segment_41 ?_
        have hPc := hP.sub (ws' := [(A 6, xc6 Z A M)]) [2] rfl
        have hDc := hD.sub (ws' := [(A 6, xc6 Z A M)]) [2] (by decide) rfl
        refine xk_p (va_runV (As := []) (rest := []) ⟨hx, hb, hml, hown, hts⟩ (c_Program_full l dC dI Z A _ M) (cwV 0 hts (xw_V _ tw_468 tw_469 tw_470 tw_4 tw_471) rfl rfl rfl (by decide +kernel) ⟨Nat.le_of_ble_eq_true rfl, Nat.le_of_ble_eq_true rfl⟩) ⟨xB_blind, va_recv (q0 := 2) (ci := 3) hK hP rfl rfl, fun U hU hW => ⟨rfl, xB_at hPc hK hDc hq U hU hW⟩⟩ rfl rfl hl.1 rfl (lv_room (Nat.le_of_ble_eq_true rfl)) d_U_segment_44 ⟨Nat.le_of_ble_eq_true rfl, Nat.le_of_ble_eq_true rfl⟩) ?_
        refine lv_topi (fun z8 hz8 => ?_)
        refine lv_if_eq (tgt := 60) hx hb d_U_segment_47 rfl (fun h9 => ?_) (fun h9 => ?_)
        · refine lv_iload_n hx hb d_U_segment_60 rfl (lv_at hl 1 rfl) ?_
          refine lv_iconst (v := (-1)) hx hb d_U_segment_61 (by decide) ?_
          refine lv_icmp_ne (tgt := 76) hx hb d_U_segment_62 rfl (fun _ => ?_) (fun h => absurd h h1)
          refine lv_aload_n hx hb d_U_segment_76 rfl (lv_at hl 0 rfl) ?_
          refine va_get (D := (dC, dI)) (ci := 9) (v := .ref (A 6)) (C := "CentrifugeUnit") (T := xF9) (N := 7) hx hb htt xin9 hown hK hP 0 rfl rfl 1 (by decide) (htt _ tw_284) (fun _ h9 => h9) rfl d_U_segment_77 ?_
          refine lv_iload_n hx hb d_U_segment_80 rfl (lv_at hl 1 rfl) ?_
          refine lv_iload_n hx hb d_U_segment_81 rfl (lv_at hl 2 rfl) ?_
          refine lv_iload_n hx hb d_U_segment_82 rfl (lv_at hl 3 rfl) ?_
          have hPc := hP.sub (ws' := [(A 6, xc6 Z A M), (A 7, xc7 Z A M), (A 8, xc8 Z A M), (A 9, xc9 Z A M)]) [2, 3, 4, 5] rfl
          have hDc := hD.sub (ws' := [(A 6, xc6 Z A M), (A 7, xc7 Z A M), (A 8, xc8 Z A M), (A 9, xc9 Z A M)]) [2, 3, 4, 5] (by decide) rfl
          refine xk_v (wc := [(A 6, xc6 Z A M), (A 7, xc7 Z A M), (A 8, xc8 Z A M), (A 9, xc9 Z A M)]) (wr := [(A 0, .inr (9, [.ref (A 1), .ref (A 6), .ref (A 10), .ref (A 11), .ref (A 12), .ref (A 13), .ref (A 17)])), (A 17, .inr (0, [.ref (A 1), .ref (A 6), .ref (A 11), .ref (A 12), .ref (A 13), .ref (A 18), .ref (A 19), .int (M.1 12), .int (M.1 13), .int (M.1 14), .int (M.1 15), .int (M.1 16), .int (M.1 17), .int (M.1 18)]))]) (va_runV (As := [.int a1, .int a2, .int a3]) (rest := []) ⟨hx, hb, hml, hown, hts⟩ (c_Program_add l dC dI Z A _ M a1 a2 a3 hc) (cwV 3 hts (xw_V _ tw_473 tw_474 tw_475 tw_4 tw_476) rfl rfl rfl (by decide +kernel) ⟨Nat.le_of_ble_eq_true rfl, Nat.le_of_ble_eq_true rfl⟩) ⟨xB_blind, va_recv (q0 := 2) (ci := 3) hK hP rfl rfl, fun U hU hW => ⟨rfl, xB_at hPc hK hDc hq U hU hW⟩⟩ rfl rfl hl.1 rfl (lv_room (Nat.le_of_ble_eq_true rfl)) d_U_segment_83 ⟨Nat.le_of_ble_eq_true rfl, Nat.le_of_ble_eq_true rfl⟩) hP hD hS hA [2, 3, 4, 5] [0, 1] rfl rfl (by decide) (by decide) (fun u10 H locs hu10 hP hD hS => ?_)
          have hP : va_P (dC, dI) xcl [(A 0, .inr (9, [.ref (A 1), .ref (A 6), .ref (A 10), .ref (A 11), .ref (A 12), .ref (A 13), .ref (A 17)])), (A 17, .inr (0, [.ref (A 1), .ref (A 6), .ref (A 11), .ref (A 12), .ref (A 13), .ref (A 18), .ref (A 19), .int (M.1 12), .int (M.1 13), .int (M.1 14), .int (M.1 15), .int (M.1 16), .int (M.1 17), .int (M.1 18)])), (A 6, .inr (3, [.ref (A 7), .ref (A 8), .ref (A 9), .int (u10.2.2.2)])), (A 7, .inl (Z 0, 12, .inl (u10.1))), (A 8, .inl (Z 0, 12, .inl (u10.2.1))), (A 9, .inl (Z 0, 12, .inl (u10.2.2.1)))] H := hP
          have hD : va_D AA [(A 0, .inr (9, [.ref (A 1), .ref (A 6), .ref (A 10), .ref (A 11), .ref (A 12), .ref (A 13), .ref (A 17)])), (A 17, .inr (0, [.ref (A 1), .ref (A 6), .ref (A 11), .ref (A 12), .ref (A 13), .ref (A 18), .ref (A 19), .int (M.1 12), .int (M.1 13), .int (M.1 14), .int (M.1 15), .int (M.1 16), .int (M.1 17), .int (M.1 18)])), (A 6, .inr (3, [.ref (A 7), .ref (A 8), .ref (A 9), .int (u10.2.2.2)])), (A 7, .inl (Z 0, 12, .inl (u10.1))), (A 8, .inl (Z 0, 12, .inl (u10.2.1))), (A 9, .inl (Z 0, 12, .inl (u10.2.2.1)))] := hD
          refine lv_aload_n hx hb d_U_segment_86 rfl (lv_at hl 0 rfl) ?_
          refine va_get (D := (dC, dI)) (ci := 9) (v := .ref (A 6)) (C := "CentrifugeUnit") (T := xF9) (N := 7) hx hb htt xin9 hown hK hP 0 rfl rfl 1 (by decide) (htt _ tw_284) (fun _ h9 => h9) rfl d_U_segment_87 ?_
          refine va_get (D := (dC, dI)) (ci := 3) (v := .int (u10.2.2.2)) (C := "CentrifugeUnit$Program") (T := xF3) (N := 4) hx hb htt xin3 hown hK hP 2 rfl rfl 3 (by decide) (htt _ tw_68) (fun _ h9 => h9) rfl d_U_segment_90 ?_
          have hP9 := hP.sub (ws' := [(A 0, xc0 Z A (ap_U_segment M ((u10.2.2.2), (u10.1), (u10.2.1), (u10.2.2.1)))), (A 17, xc17 Z A (ap_U_segment M ((u10.2.2.2), (u10.1), (u10.2.1), (u10.2.2.1)))), (A 6, xc6 Z A (ap_U_segment M ((u10.2.2.2), (u10.1), (u10.2.1), (u10.2.2.1)))), (A 7, xc7 Z A (ap_U_segment M ((u10.2.2.2), (u10.1), (u10.2.1), (u10.2.2.1)))), (A 8, xc8 Z A (ap_U_segment M ((u10.2.2.2), (u10.1), (u10.2.1), (u10.2.2.1)))), (A 9, xc9 Z A (ap_U_segment M ((u10.2.2.2), (u10.1), (u10.2.1), (u10.2.2.1))))]) [0, 1, 2, 3, 4, 5] rfl
          have hD9 := hD.sub (ws' := [(A 0, xc0 Z A (ap_U_segment M ((u10.2.2.2), (u10.1), (u10.2.1), (u10.2.2.1)))), (A 17, xc17 Z A (ap_U_segment M ((u10.2.2.2), (u10.1), (u10.2.1), (u10.2.2.1)))), (A 6, xc6 Z A (ap_U_segment M ((u10.2.2.2), (u10.1), (u10.2.1), (u10.2.2.1)))), (A 7, xc7 Z A (ap_U_segment M ((u10.2.2.2), (u10.1), (u10.2.1), (u10.2.2.1)))), (A 8, xc8 Z A (ap_U_segment M ((u10.2.2.2), (u10.1), (u10.2.1), (u10.2.2.1)))), (A 9, xc9 Z A (ap_U_segment M ((u10.2.2.2), (u10.1), (u10.2.1), (u10.2.2.1))))]) [0, 1, 2, 3, 4, 5] (by decide) rfl
          exact W.iret hx hb hr (fun t ht hW => ⟨⟨(u10.2.2.2), ((u10.2.2.2), (u10.1), (u10.2.1), (u10.2.2.1)), rfl, (by rw [F_U_segment, if_neg h1, ← hz4, F_U_segment_k2, if_neg h5, ← hz6, F_U_segment_k3, if_neg h7, ← hz8, F_U_segment_k4, if_pos h9, ← hu10, F_U_segment_k5]), xE_at hP9 hK hD9 ht hW⟩, hS.F ht⟩) hS.2.2 d_U_segment_93
        · exact absurd hT (by rw [T_U_segment, if_neg h1, ← hz4, T_U_segment_k2, if_neg h5, ← hz6, T_U_segment_k3, if_neg h7, ← hz8, T_U_segment_k4, if_neg h9]; exact (by decide : ¬ (2 : Nat) = 0))
    · exact absurd hT (by rw [T_U_segment, if_neg h1, ← hz4, T_U_segment_k2, if_pos h5]; exact (by decide : ¬ (1 : Nat) = 0))
abbrev bc_U_power : ByteArray := prog_1_method_12_code
def y_U_power : MethodName := ⟨"CentrifugeUnit", "power", "(Z)V"⟩
theorem d_U_power_0 : decode bc_U_power 0 = .ok (.aload_n 0, 1) := by decide +kernel
theorem d_U_power_1 : decode bc_U_power 1 = .ok (.getfield 56, 3) := by decide +kernel
theorem d_U_power_4 : decode bc_U_power 4 = .ok (.getfield 173, 3) := by decide +kernel
theorem d_U_power_7 : decode bc_U_power 7 = .ok (.iload_n 1, 1) := by decide +kernel
theorem d_U_power_8 : decode bc_U_power 8 = .ok (.if_icmp .ne 13, 3) := by decide +kernel
theorem d_U_power_11 : decode bc_U_power 11 = .ok (.new 79, 3) := by decide +kernel
theorem d_U_power_14 : decode bc_U_power 14 = .ok (.dup, 1) := by decide +kernel
theorem d_U_power_15 : decode bc_U_power 15 = .ok (.ldc 176, 2) := by decide +kernel
theorem d_U_power_17 : decode bc_U_power 17 = .ok (.invokespecial 83, 3) := by decide +kernel
theorem d_U_power_20 : decode bc_U_power 20 = .ok (.athrow, 1) := by decide +kernel
def T_U_power (M : XM) (a1 : Int32) : Nat := (if (M.1 12) = a1 then 2 else 0)
set_option maxHeartbeats 4000000 in
set_option maxRecDepth 100000 in
theorem t2_U_power (l : Launch) (dC : Nat → ClassId) (dI : Nat → Nat → Nat) (Z : Nat → ClassId) (A : Nat → Nat) (sz : Nat) (M : XM) (a1 : Int32) (htl : l.stackTraces = false) (hT : T_U_power M a1 = 2) : MetT l y_U_power (.code y_U_power bc_U_power 2 none :: xw) ({ frames := 6, cells := 1, slots := 6, locals := 90 }) (va_Pc [.ref (A 0), .int a1] (xBs (dC, dI) xcl (xty Z) sz [(A 0, xc0 Z A M), (A 17, xc17 Z A M), (A 18, xc18 Z A M)])) xISE 1 6 := by
  refine MetT.ofW (cc := bc_U_power) (maxL := 2) (ret := none) (by decide) rfl ?_
  intro p e s m args below meth c s₁ B hml hv
  obtain ⟨rfl, ⟨hsz, hP, hK, hD0, hq⟩, hs⟩ := hv
  have hx := B.exec
  have hb := B.bytes
  have hts := atoms_spec (ws := (.code y_U_power bc_U_power 2 none :: xw)) B.pre
  have htt : ∀ w ∈ xw, w.before _ s = true := fun w h => hts w (List.mem_cons_of_mem _ h)
  have hown : s.vm.findClass "CentrifugeUnit" = some m.cls := findClass_of_methodNamed B.named
  have hlocks := B.notSynchronized
  subst hsz
  have hD : va_D (fun _ => True) [(A 0, .inr (9, [.ref (A 1), .ref (A 6), .ref (A 10), .ref (A 11), .ref (A 12), .ref (A 13), .ref (A 17)])), (A 17, .inr (0, [.ref (A 1), .ref (A 6), .ref (A 11), .ref (A 12), .ref (A 13), .ref (A 18), .ref (A 19), .int (M.1 12), .int (M.1 13), .int (M.1 14), .int (M.1 15), .int (M.1 16), .int (M.1 17), .int (M.1 18)])), (A 18, .inr (8, [.int (M.1 19), .int (M.1 20), .int (M.1 21), .int (M.1 22)]))] := hD0
  have hP : va_P (dC, dI) xcl [(A 0, .inr (9, [.ref (A 1), .ref (A 6), .ref (A 10), .ref (A 11), .ref (A 12), .ref (A 13), .ref (A 17)])), (A 17, .inr (0, [.ref (A 1), .ref (A 6), .ref (A 11), .ref (A 12), .ref (A 13), .ref (A 18), .ref (A 19), .int (M.1 12), .int (M.1 13), .int (M.1 14), .int (M.1 15), .int (M.1 16), .int (M.1 17), .int (M.1 18)])), (A 18, .inr (8, [.int (M.1 19), .int (M.1 20), .int (M.1 21), .int (M.1 22)]))] s.heap := hP
  have hl := lv_entry ([.ref (A 0), .int a1]) (n := 2) (Nat.le_of_ble_eq_true rfl)
  rw [lg_entry_eq]
  generalize (lg_sl ([.ref (A 0), .int a1]) ++ List.replicate (2 - (lg_sl ([.ref (A 0), .int a1])).length) Slot.unset).toArray = ls at hl ⊢
  have hl : lv_has ls 2 [(0, .ref (A 0)), (1, .int a1)] := hl
  refine lv_aload_n hx hb d_U_power_0 rfl (lv_at hl 0 rfl) ?_
  refine va_get (D := (dC, dI)) (ci := 9) (v := .ref (A 17)) (C := "CentrifugeUnit") (T := xF9) (N := 7) hx hb htt xin9 hown hK hP 0 rfl rfl 6 (by decide) (htt _ tw_289) (fun _ h9 => h9) rfl d_U_power_1 ?_
  refine va_get (D := (dC, dI)) (ci := 0) (v := .int (M.1 12)) (C := "CentrifugeUnit$Control") (T := xF0) (N := 14) hx hb htt xin0 hown hK hP 1 rfl rfl 7 (by decide) (htt _ tw_241) (fun _ h9 => h9) rfl d_U_power_4 ?_
  refine lv_iload_n hx hb d_U_power_7 rfl (lv_at hl 1 rfl) ?_
  refine lv_icmp_ne (tgt := 21) hx hb d_U_power_8 rfl (fun h1 => ?_) (fun h1 => ?_)
  · exact absurd hT (by rw [T_U_power, if_neg h1]; exact (by decide : ¬ (0 : Nat) = 2))
  · obtain ⟨q9, hZ⟩ := hq.2.1 ("CentrifugeUnit", 176, "it is so") (by decide +kernel)
    exact xt_throw (names := ["java/lang/RuntimeException", "java/lang/Exception"]) hx hb htl hown (htt _ tw_425) (htt _ tw_426) (htt _ tw_17) hZ (xo_all htt hq hs xo_2_83) (by decide) (by decide) d_U_power_11 d_U_power_14 d_U_power_15 d_U_power_17 d_U_power_20 (B.noHandlers (hts _ List.mem_cons_self)) (hl.1.trans hml.symm) hlocks (by decide) (by decide) (by decide) (by decide)
theorem d_U_power_21 : decode bc_U_power 21 = .ok (.iload_n 1, 1) := by decide +kernel
theorem d_U_power_22 : decode bc_U_power 22 = .ok (.ifCond .eq 13, 3) := by decide +kernel
theorem d_U_power_25 : decode bc_U_power 25 = .ok (.aload_n 0, 1) := by decide +kernel
theorem d_U_power_26 : decode bc_U_power 26 = .ok (.getfield 56, 3) := by decide +kernel
theorem d_U_power_29 : decode bc_U_power 29 = .ok (.invokevirtual 178, 3) := by decide +kernel
theorem d_U_power_32 : decode bc_U_power 32 = .ok (.goto 10, 3) := by decide +kernel
theorem d_U_power_35 : decode bc_U_power 35 = .ok (.aload_n 0, 1) := by decide +kernel
theorem d_U_power_36 : decode bc_U_power 36 = .ok (.getfield 56, 3) := by decide +kernel
theorem d_U_power_39 : decode bc_U_power 39 = .ok (.invokevirtual 181, 3) := by decide +kernel
theorem d_U_power_42 : decode bc_U_power 42 = .ok (.return_, 1) := by decide +kernel
abbrev ap_U_power (M : XM) (u : (Int32 × Int32 × Int32 × Int32 × Int32 × Int32)) : XM := ((va_up (va_up (va_up (va_up (va_up (va_up M.1 12 (u.1)) 20 (u.2.1)) 21 (u.2.2.1)) 22 (u.2.2.2.1)) 14 (u.2.2.2.2.1)) 15 (u.2.2.2.2.2)), M.2)
def F_U_power_k1 (M : XM) (a1 : Int32) (u3 : (Int32 × Int32 × Int32 × Int32)) : (Int32 × Int32 × Int32 × Int32 × Int32 × Int32) := ((u3.1), (u3.2.1), (u3.2.2.1), (u3.2.2.2), (M.1 14), (M.1 15))
def F_U_power_k2 (M : XM) (a1 : Int32) (u4 : (Int32 × Int32 × Int32 × Int32 × Int32 × Int32)) : (Int32 × Int32 × Int32 × Int32 × Int32 × Int32) := ((u4.1), (u4.2.1), (u4.2.2.1), (u4.2.2.2.1), (u4.2.2.2.2.1), (u4.2.2.2.2.2))
def F_U_power (M : XM) (a1 : Int32) : (Int32 × Int32 × Int32 × Int32 × Int32 × Int32) := (if (M.1 12) = a1 then ((M.1 12), (M.1 20), (M.1 21), (M.1 22), (M.1 14), (M.1 15)) else (if a1 = 0 then (F_U_power_k1 M a1 (F_Control_powerGoes M)) else (F_U_power_k2 M a1 (F_Control_powerComes M))))
set_option maxHeartbeats 4000000 in
set_option maxRecDepth 100000 in
theorem c_U_power (l : Launch) (dC : Nat → ClassId) (dI : Nat → Nat → Nat) (Z : Nat → ClassId) (A : Nat → Nat) (sz : Nat) (M : XM) (a1 : Int32) (hT : T_U_power M a1 = 0) : Met l y_U_power (.code y_U_power bc_U_power 2 none :: xw) ({ frames := 2, cells := 0, slots := 0, locals := 40 }) (va_Pc [.ref (A 0), .int a1] (xB (dC, dI) xcl (xty Z) sz [(A 0, xc0 Z A M), (A 17, xc17 Z A M), (A 18, xc18 Z A M)])) (va_Qv (fun u : (Int32 × Int32 × Int32 × Int32 × Int32 × Int32) => u = F_U_power M a1) (fun u => xE (dC, dI) xcl (xty Z) (va_A [(A 0, xc0 Z A M), (A 17, xc17 Z A M), (A 18, xc18 Z A M)] sz) [(A 0, xc0 Z A (ap_U_power M u)), (A 17, xc17 Z A (ap_U_power M u)), (A 18, xc18 Z A (ap_U_power M u))]) (va_A [(A 0, xc0 Z A M), (A 17, xc17 Z A M), (A 18, xc18 Z A M)] sz)) 0 0 (va_A [(A 0, xc0 Z A M), (A 17, xc17 Z A M), (A 18, xc18 Z A M)] sz) := by
  refine Met.ofW (cc := bc_U_power) (maxL := 2) (ret := none) (by decide) rfl ?_
  intro p e s m args below meth c s₁ B hml hv
  obtain ⟨rfl, hsz, hP, hK, hD0, hq⟩ := hv
  have hx := B.exec
  have hb := B.bytes
  have hr := B.returns
  have hts := atoms_spec (ws := (.code y_U_power bc_U_power 2 none :: xw)) B.pre
  have htt : ∀ w ∈ xw, w.before _ s = true := fun w h => hts w (List.mem_cons_of_mem _ h)
  have hown : s.vm.findClass "CentrifugeUnit" = some m.cls := findClass_of_methodNamed B.named
  have hlocks := B.notSynchronized
  subst hsz
  have hD := hD0.self (sz := s.heap.size)
  generalize hAe : va_A [(A 0, xc0 Z A M), (A 17, xc17 Z A M), (A 18, xc18 Z A M)] s.heap.size = AA at hD ⊢
  have hA : ∀ q : Nat, s.heap.size ≤ q → AA q := fun q h => by rw [← hAe]; exact Or.inr h
  have hS : va_S AA s.heap s.heap [] := va_S.rf
  have hP : va_P (dC, dI) xcl [(A 0, .inr (9, [.ref (A 1), .ref (A 6), .ref (A 10), .ref (A 11), .ref (A 12), .ref (A 13), .ref (A 17)])), (A 17, .inr (0, [.ref (A 1), .ref (A 6), .ref (A 11), .ref (A 12), .ref (A 13), .ref (A 18), .ref (A 19), .int (M.1 12), .int (M.1 13), .int (M.1 14), .int (M.1 15), .int (M.1 16), .int (M.1 17), .int (M.1 18)])), (A 18, .inr (8, [.int (M.1 19), .int (M.1 20), .int (M.1 21), .int (M.1 22)]))] s.heap := hP
  have hD : va_D AA [(A 0, .inr (9, [.ref (A 1), .ref (A 6), .ref (A 10), .ref (A 11), .ref (A 12), .ref (A 13), .ref (A 17)])), (A 17, .inr (0, [.ref (A 1), .ref (A 6), .ref (A 11), .ref (A 12), .ref (A 13), .ref (A 18), .ref (A 19), .int (M.1 12), .int (M.1 13), .int (M.1 14), .int (M.1 15), .int (M.1 16), .int (M.1 17), .int (M.1 18)])), (A 18, .inr (8, [.int (M.1 19), .int (M.1 20), .int (M.1 21), .int (M.1 22)]))] := hD
  have hl := lv_entry ([.ref (A 0), .int a1]) (n := 2) (Nat.le_of_ble_eq_true rfl)
  rw [lg_entry_eq]
  generalize (lg_sl ([.ref (A 0), .int a1]) ++ List.replicate (2 - (lg_sl ([.ref (A 0), .int a1])).length) Slot.unset).toArray = ls at hl ⊢
  have hl : lv_has ls 2 [(0, .ref (A 0)), (1, .int a1)] := hl
  refine lv_aload_n hx hb d_U_power_0 rfl (lv_at hl 0 rfl) ?_
  refine va_get (D := (dC, dI)) (ci := 9) (v := .ref (A 17)) (C := "CentrifugeUnit") (T := xF9) (N := 7) hx hb htt xin9 hown hK hP 0 rfl rfl 6 (by decide) (htt _ tw_289) (fun _ h9 => h9) rfl d_U_power_1 ?_
  refine va_get (D := (dC, dI)) (ci := 0) (v := .int (M.1 12)) (C := "CentrifugeUnit$Control") (T := xF0) (N := 14) hx hb htt xin0 hown hK hP 1 rfl rfl 7 (by decide) (htt _ tw_241) (fun _ h9 => h9) rfl d_U_power_4 ?_
  refine lv_iload_n hx hb d_U_power_7 rfl (lv_at hl 1 rfl) ?_
  refine lv_icmp_ne (tgt := 21) hx hb d_U_power_8 rfl (fun h1 => ?_) (fun h1 => ?_)
  · refine lv_iload_n hx hb d_U_power_21 rfl (lv_at hl 1 rfl) ?_
    refine lv_if_eq (tgt := 35) hx hb d_U_power_22 rfl (fun h2 => ?_) (fun h2 => ?_)
    · refine lv_aload_n hx hb d_U_power_35 rfl (lv_at hl 0 rfl) ?_
      refine va_get (D := (dC, dI)) (ci := 9) (v := .ref (A 17)) (C := "CentrifugeUnit") (T := xF9) (N := 7) hx hb htt xin9 hown hK hP 0 rfl rfl 6 (by decide) (htt _ tw_289) (fun _ h9 => h9) rfl d_U_power_36 ?_
      have hPc := hP.sub (ws' := [(A 17, xc17 Z A M), (A 18, xc18 Z A M)]) [1, 2] rfl
      have hDc := hD.sub (ws' := [(A 17, xc17 Z A M), (A 18, xc18 Z A M)]) [1, 2] (by decide) rfl
      refine xk_v (wc := [(A 17, xc17 Z A M), (A 18, xc18 Z A M)]) (wr := [(A 0, .inr (9, [.ref (A 1), .ref (A 6), .ref (A 10), .ref (A 11), .ref (A 12), .ref (A 13), .ref (A 17)]))]) (va_runV (As := []) (rest := []) ⟨hx, hb, hml, hown, hts⟩ (c_Control_powerGoes l dC dI Z A _ M) (cwV 0 hts (xw_V _ tw_569 tw_570 tw_571 tw_9 tw_572) rfl rfl rfl (by decide +kernel) ⟨Nat.le_of_ble_eq_true rfl, Nat.le_of_ble_eq_true rfl⟩) ⟨xB_blind, va_recv (q0 := 1) (ci := 0) hK hP rfl rfl, fun U hU hW => ⟨rfl, xB_at hPc hK hDc hq U hU hW⟩⟩ rfl rfl hl.1 rfl (lv_room (Nat.le_of_ble_eq_true rfl)) d_U_power_39 ⟨Nat.le_of_ble_eq_true rfl, Nat.le_of_ble_eq_true rfl⟩) hP hD hS hA [1, 2] [0] rfl rfl (by decide) (by decide) (fun u3 H locs hu3 hP hD hS => ?_)
      have hP : va_P (dC, dI) xcl [(A 0, .inr (9, [.ref (A 1), .ref (A 6), .ref (A 10), .ref (A 11), .ref (A 12), .ref (A 13), .ref (A 17)])), (A 17, .inr (0, [.ref (A 1), .ref (A 6), .ref (A 11), .ref (A 12), .ref (A 13), .ref (A 18), .ref (A 19), .int (u3.1), .int (M.1 13), .int (M.1 14), .int (M.1 15), .int (M.1 16), .int (M.1 17), .int (M.1 18)])), (A 18, .inr (8, [.int (M.1 19), .int (u3.2.1), .int (u3.2.2.1), .int (u3.2.2.2)]))] H := hP
      have hD : va_D AA [(A 0, .inr (9, [.ref (A 1), .ref (A 6), .ref (A 10), .ref (A 11), .ref (A 12), .ref (A 13), .ref (A 17)])), (A 17, .inr (0, [.ref (A 1), .ref (A 6), .ref (A 11), .ref (A 12), .ref (A 13), .ref (A 18), .ref (A 19), .int (u3.1), .int (M.1 13), .int (M.1 14), .int (M.1 15), .int (M.1 16), .int (M.1 17), .int (M.1 18)])), (A 18, .inr (8, [.int (M.1 19), .int (u3.2.1), .int (u3.2.2.1), .int (u3.2.2.2)]))] := hD
      have hP9 := hP.sub (ws' := [(A 0, xc0 Z A (ap_U_power M ((u3.1), (u3.2.1), (u3.2.2.1), (u3.2.2.2), (M.1 14), (M.1 15)))), (A 17, xc17 Z A (ap_U_power M ((u3.1), (u3.2.1), (u3.2.2.1), (u3.2.2.2), (M.1 14), (M.1 15)))), (A 18, xc18 Z A (ap_U_power M ((u3.1), (u3.2.1), (u3.2.2.1), (u3.2.2.2), (M.1 14), (M.1 15))))]) [0, 1, 2] rfl
      have hD9 := hD.sub (ws' := [(A 0, xc0 Z A (ap_U_power M ((u3.1), (u3.2.1), (u3.2.2.1), (u3.2.2.2), (M.1 14), (M.1 15)))), (A 17, xc17 Z A (ap_U_power M ((u3.1), (u3.2.1), (u3.2.2.1), (u3.2.2.2), (M.1 14), (M.1 15)))), (A 18, xc18 Z A (ap_U_power M ((u3.1), (u3.2.1), (u3.2.2.1), (u3.2.2.2), (M.1 14), (M.1 15))))]) [0, 1, 2] (by decide) rfl
      exact W.vret hx hb hr (fun t ht hW => ⟨⟨((u3.1), (u3.2.1), (u3.2.2.1), (u3.2.2.2), (M.1 14), (M.1 15)), rfl, (by rw [F_U_power, if_neg h1, if_pos h2, ← hu3, F_U_power_k1]), xE_at hP9 hK hD9 ht hW⟩, hS.F ht⟩) hS.2.2 d_U_power_42
    · refine lv_aload_n hx hb d_U_power_25 rfl (lv_at hl 0 rfl) ?_
      refine va_get (D := (dC, dI)) (ci := 9) (v := .ref (A 17)) (C := "CentrifugeUnit") (T := xF9) (N := 7) hx hb htt xin9 hown hK hP 0 rfl rfl 6 (by decide) (htt _ tw_289) (fun _ h9 => h9) rfl d_U_power_26 ?_
      have hPc := hP.sub (ws' := [(A 17, xc17 Z A M), (A 18, xc18 Z A M)]) [1, 2] rfl
      have hDc := hD.sub (ws' := [(A 17, xc17 Z A M), (A 18, xc18 Z A M)]) [1, 2] (by decide) rfl
      refine xk_v (wc := [(A 17, xc17 Z A M), (A 18, xc18 Z A M)]) (wr := [(A 0, .inr (9, [.ref (A 1), .ref (A 6), .ref (A 10), .ref (A 11), .ref (A 12), .ref (A 13), .ref (A 17)]))]) (va_runV (As := []) (rest := []) ⟨hx, hb, hml, hown, hts⟩ (c_Control_powerComes l dC dI Z A _ M) (cwV 0 hts (xw_V _ tw_561 tw_562 tw_563 tw_9 tw_564) rfl rfl rfl (by decide +kernel) ⟨Nat.le_of_ble_eq_true rfl, Nat.le_of_ble_eq_true rfl⟩) ⟨xB_blind, va_recv (q0 := 1) (ci := 0) hK hP rfl rfl, fun U hU hW => ⟨rfl, xB_at hPc hK hDc hq U hU hW⟩⟩ rfl rfl hl.1 rfl (lv_room (Nat.le_of_ble_eq_true rfl)) d_U_power_29 ⟨Nat.le_of_ble_eq_true rfl, Nat.le_of_ble_eq_true rfl⟩) hP hD hS hA [1, 2] [0] rfl rfl (by decide) (by decide) (fun u4 H locs hu4 hP hD hS => ?_)
      have hP : va_P (dC, dI) xcl [(A 0, .inr (9, [.ref (A 1), .ref (A 6), .ref (A 10), .ref (A 11), .ref (A 12), .ref (A 13), .ref (A 17)])), (A 17, .inr (0, [.ref (A 1), .ref (A 6), .ref (A 11), .ref (A 12), .ref (A 13), .ref (A 18), .ref (A 19), .int (u4.1), .int (M.1 13), .int (u4.2.2.2.2.1), .int (u4.2.2.2.2.2), .int (M.1 16), .int (M.1 17), .int (M.1 18)])), (A 18, .inr (8, [.int (M.1 19), .int (u4.2.1), .int (u4.2.2.1), .int (u4.2.2.2.1)]))] H := hP
      have hD : va_D AA [(A 0, .inr (9, [.ref (A 1), .ref (A 6), .ref (A 10), .ref (A 11), .ref (A 12), .ref (A 13), .ref (A 17)])), (A 17, .inr (0, [.ref (A 1), .ref (A 6), .ref (A 11), .ref (A 12), .ref (A 13), .ref (A 18), .ref (A 19), .int (u4.1), .int (M.1 13), .int (u4.2.2.2.2.1), .int (u4.2.2.2.2.2), .int (M.1 16), .int (M.1 17), .int (M.1 18)])), (A 18, .inr (8, [.int (M.1 19), .int (u4.2.1), .int (u4.2.2.1), .int (u4.2.2.2.1)]))] := hD
      refine lv_goto (tgt := 42) hx hb d_U_power_32 rfl ?_
      have hP9 := hP.sub (ws' := [(A 0, xc0 Z A (ap_U_power M ((u4.1), (u4.2.1), (u4.2.2.1), (u4.2.2.2.1), (u4.2.2.2.2.1), (u4.2.2.2.2.2)))), (A 17, xc17 Z A (ap_U_power M ((u4.1), (u4.2.1), (u4.2.2.1), (u4.2.2.2.1), (u4.2.2.2.2.1), (u4.2.2.2.2.2)))), (A 18, xc18 Z A (ap_U_power M ((u4.1), (u4.2.1), (u4.2.2.1), (u4.2.2.2.1), (u4.2.2.2.2.1), (u4.2.2.2.2.2))))]) [0, 1, 2] rfl
      have hD9 := hD.sub (ws' := [(A 0, xc0 Z A (ap_U_power M ((u4.1), (u4.2.1), (u4.2.2.1), (u4.2.2.2.1), (u4.2.2.2.2.1), (u4.2.2.2.2.2)))), (A 17, xc17 Z A (ap_U_power M ((u4.1), (u4.2.1), (u4.2.2.1), (u4.2.2.2.1), (u4.2.2.2.2.1), (u4.2.2.2.2.2)))), (A 18, xc18 Z A (ap_U_power M ((u4.1), (u4.2.1), (u4.2.2.1), (u4.2.2.2.1), (u4.2.2.2.2.1), (u4.2.2.2.2.2))))]) [0, 1, 2] (by decide) rfl
      exact W.vret hx hb hr (fun t ht hW => ⟨⟨((u4.1), (u4.2.1), (u4.2.2.1), (u4.2.2.2.1), (u4.2.2.2.2.1), (u4.2.2.2.2.2)), rfl, (by rw [F_U_power, if_neg h1, if_neg h2, ← hu4, F_U_power_k2]), xE_at hP9 hK hD9 ht hW⟩, hS.F ht⟩) hS.2.2 d_U_power_42
  · exact absurd hT (by rw [T_U_power, if_pos h1]; exact (by decide : ¬ (2 : Nat) = 0))
abbrev bc_U_look : ByteArray := prog_1_method_14_code
def y_U_look : MethodName := ⟨"CentrifugeUnit", "look", "(I)I"⟩
theorem d_U_look_0 : decode bc_U_look 0 = .ok (.iload_n 1, 1) := by decide +kernel
theorem d_U_look_1 : decode bc_U_look 1 = .ok (.tableswitch 190 0 10 #[59, 67, 75, 101, 109, 117, 133, 141, 149, 160, 179], 59) := by decide +kernel
theorem d_U_look_191 : decode bc_U_look 191 = .ok (.new 68, 3) := by decide +kernel
theorem d_U_look_194 : decode bc_U_look 194 = .ok (.dup, 1) := by decide +kernel
theorem d_U_look_195 : decode bc_U_look 195 = .ok (.ldc 233, 2) := by decide +kernel
theorem d_U_look_197 : decode bc_U_look 197 = .ok (.invokespecial 72, 3) := by decide +kernel
theorem d_U_look_200 : decode bc_U_look 200 = .ok (.athrow, 1) := by decide +kernel
def T_U_look (M : XM) (a1 : Int32) : Nat := (if a1 = 0 then 0 else (if a1 = 1 then 0 else (if a1 = 2 then 0 else (if a1 = 3 then 0 else (if a1 = 4 then 0 else (if a1 = 5 then 0 else (if a1 = 6 then 0 else (if a1 = 7 then 0 else (if a1 = 8 then 0 else (if a1 = 9 then 0 else (if a1 = 10 then 0 else 1)))))))))))
set_option maxHeartbeats 4000000 in
set_option maxRecDepth 100000 in
theorem t1_U_look (l : Launch) (dC : Nat → ClassId) (dI : Nat → Nat → Nat) (Z : Nat → ClassId) (A : Nat → Nat) (sz : Nat) (M : XM) (a1 : Int32) (htl : l.stackTraces = false) (hT : T_U_look M a1 = 1) : MetT l y_U_look (.code y_U_look bc_U_look 2 (some .int) :: xw) ({ frames := 6, cells := 1, slots := 6, locals := 90 }) (va_Pc [.ref (A 0), .int a1] (xBs (dC, dI) xcl (xty Z) sz [(A 0, xc0 Z A M), (A 17, xc17 Z A M), (A 11, xc11 Z A M), (A 18, xc18 Z A M), (A 19, xc19 Z A M)])) xIAE 1 6 := by
  refine MetT.ofW (cc := bc_U_look) (maxL := 2) (ret := (some .int)) (by decide) rfl ?_
  intro p e s m args below meth c s₁ B hml hv
  obtain ⟨rfl, ⟨hsz, hP, hK, hD0, hq⟩, hs⟩ := hv
  have hx := B.exec
  have hb := B.bytes
  have hts := atoms_spec (ws := (.code y_U_look bc_U_look 2 (some .int) :: xw)) B.pre
  have htt : ∀ w ∈ xw, w.before _ s = true := fun w h => hts w (List.mem_cons_of_mem _ h)
  have hown : s.vm.findClass "CentrifugeUnit" = some m.cls := findClass_of_methodNamed B.named
  have hlocks := B.notSynchronized
  subst hsz
  have hD : va_D (fun _ => True) [(A 0, .inr (9, [.ref (A 1), .ref (A 6), .ref (A 10), .ref (A 11), .ref (A 12), .ref (A 13), .ref (A 17)])), (A 17, .inr (0, [.ref (A 1), .ref (A 6), .ref (A 11), .ref (A 12), .ref (A 13), .ref (A 18), .ref (A 19), .int (M.1 12), .int (M.1 13), .int (M.1 14), .int (M.1 15), .int (M.1 16), .int (M.1 17), .int (M.1 18)])), (A 11, .inr (7, [.int (M.1 2), .int (M.1 3), .int (M.1 4), .int (M.1 5), .int (M.1 6), .int (M.1 7)])), (A 18, .inr (8, [.int (M.1 19), .int (M.1 20), .int (M.1 21), .int (M.1 22)])), (A 19, .inr (6, [.long (M.2.1 1), .long (M.2.1 2), .int (M.1 23), .int (M.1 24), .int (M.1 25), .int (M.1 26), .int (M.1 27), .int (M.1 28)]))] := hD0
  have hP : va_P (dC, dI) xcl [(A 0, .inr (9, [.ref (A 1), .ref (A 6), .ref (A 10), .ref (A 11), .ref (A 12), .ref (A 13), .ref (A 17)])), (A 17, .inr (0, [.ref (A 1), .ref (A 6), .ref (A 11), .ref (A 12), .ref (A 13), .ref (A 18), .ref (A 19), .int (M.1 12), .int (M.1 13), .int (M.1 14), .int (M.1 15), .int (M.1 16), .int (M.1 17), .int (M.1 18)])), (A 11, .inr (7, [.int (M.1 2), .int (M.1 3), .int (M.1 4), .int (M.1 5), .int (M.1 6), .int (M.1 7)])), (A 18, .inr (8, [.int (M.1 19), .int (M.1 20), .int (M.1 21), .int (M.1 22)])), (A 19, .inr (6, [.long (M.2.1 1), .long (M.2.1 2), .int (M.1 23), .int (M.1 24), .int (M.1 25), .int (M.1 26), .int (M.1 27), .int (M.1 28)]))] s.heap := hP
  have hl := lv_entry ([.ref (A 0), .int a1]) (n := 2) (Nat.le_of_ble_eq_true rfl)
  rw [lg_entry_eq]
  generalize (lg_sl ([.ref (A 0), .int a1]) ++ List.replicate (2 - (lg_sl ([.ref (A 0), .int a1])).length) Slot.unset).toArray = ls at hl ⊢
  have hl : lv_has ls 2 [(0, .ref (A 0)), (1, .int a1)] := hl
  refine lv_iload_n hx hb d_U_look_0 rfl (lv_at hl 1 rfl) ?_
  by_cases h1 : a1 = 0
  · refine lv_tableIn (off := 59) (tgt := 60) hx hb d_U_look_1 (by rw [h1]; decide) (by rw [h1]; decide) (by rw [h1]; decide) rfl ?_
    exact absurd hT (by rw [T_U_look, if_pos h1]; exact (by decide : ¬ (0 : Nat) = 1))
  by_cases h2 : a1 = 1
  · refine lv_tableIn (off := 67) (tgt := 68) hx hb d_U_look_1 (by rw [h2]; decide) (by rw [h2]; decide) (by rw [h2]; decide) rfl ?_
    exact absurd hT (by rw [T_U_look, if_neg h1, if_pos h2]; exact (by decide : ¬ (0 : Nat) = 1))
  by_cases h3 : a1 = 2
  · refine lv_tableIn (off := 75) (tgt := 76) hx hb d_U_look_1 (by rw [h3]; decide) (by rw [h3]; decide) (by rw [h3]; decide) rfl ?_
    exact absurd hT (by rw [T_U_look, if_neg h1, if_neg h2, if_pos h3]; exact (by decide : ¬ (0 : Nat) = 1))
  by_cases h4 : a1 = 3
  · refine lv_tableIn (off := 101) (tgt := 102) hx hb d_U_look_1 (by rw [h4]; decide) (by rw [h4]; decide) (by rw [h4]; decide) rfl ?_
    exact absurd hT (by rw [T_U_look, if_neg h1, if_neg h2, if_neg h3, if_pos h4]; exact (by decide : ¬ (0 : Nat) = 1))
  by_cases h5 : a1 = 4
  · refine lv_tableIn (off := 109) (tgt := 110) hx hb d_U_look_1 (by rw [h5]; decide) (by rw [h5]; decide) (by rw [h5]; decide) rfl ?_
    exact absurd hT (by rw [T_U_look, if_neg h1, if_neg h2, if_neg h3, if_neg h4, if_pos h5]; exact (by decide : ¬ (0 : Nat) = 1))
  by_cases h6 : a1 = 5
  · refine lv_tableIn (off := 117) (tgt := 118) hx hb d_U_look_1 (by rw [h6]; decide) (by rw [h6]; decide) (by rw [h6]; decide) rfl ?_
    exact absurd hT (by rw [T_U_look, if_neg h1, if_neg h2, if_neg h3, if_neg h4, if_neg h5, if_pos h6]; exact (by decide : ¬ (0 : Nat) = 1))
  by_cases h7 : a1 = 6
  · refine lv_tableIn (off := 133) (tgt := 134) hx hb d_U_look_1 (by rw [h7]; decide) (by rw [h7]; decide) (by rw [h7]; decide) rfl ?_
    exact absurd hT (by rw [T_U_look, if_neg h1, if_neg h2, if_neg h3, if_neg h4, if_neg h5, if_neg h6, if_pos h7]; exact (by decide : ¬ (0 : Nat) = 1))
  by_cases h8 : a1 = 7
  · refine lv_tableIn (off := 141) (tgt := 142) hx hb d_U_look_1 (by rw [h8]; decide) (by rw [h8]; decide) (by rw [h8]; decide) rfl ?_
    exact absurd hT (by rw [T_U_look, if_neg h1, if_neg h2, if_neg h3, if_neg h4, if_neg h5, if_neg h6, if_neg h7, if_pos h8]; exact (by decide : ¬ (0 : Nat) = 1))
  by_cases h9 : a1 = 8
  · refine lv_tableIn (off := 149) (tgt := 150) hx hb d_U_look_1 (by rw [h9]; decide) (by rw [h9]; decide) (by rw [h9]; decide) rfl ?_
    exact absurd hT (by rw [T_U_look, if_neg h1, if_neg h2, if_neg h3, if_neg h4, if_neg h5, if_neg h6, if_neg h7, if_neg h8, if_pos h9]; exact (by decide : ¬ (0 : Nat) = 1))
  by_cases h10 : a1 = 9
  · refine lv_tableIn (off := 160) (tgt := 161) hx hb d_U_look_1 (by rw [h10]; decide) (by rw [h10]; decide) (by rw [h10]; decide) rfl ?_
    exact absurd hT (by rw [T_U_look, if_neg h1, if_neg h2, if_neg h3, if_neg h4, if_neg h5, if_neg h6, if_neg h7, if_neg h8, if_neg h9, if_pos h10]; exact (by decide : ¬ (0 : Nat) = 1))
  by_cases h11 : a1 = 10
  · refine lv_tableIn (off := 179) (tgt := 180) hx hb d_U_look_1 (by rw [h11]; decide) (by rw [h11]; decide) (by rw [h11]; decide) rfl ?_
    exact absurd hT (by rw [T_U_look, if_neg h1, if_neg h2, if_neg h3, if_neg h4, if_neg h5, if_neg h6, if_neg h7, if_neg h8, if_neg h9, if_neg h10, if_pos h11]; exact (by decide : ¬ (0 : Nat) = 1))
  refine lv_tableOut (tgt := 191) hx hb d_U_look_1 (by have q0 := lv_neT (a := 0) h1 (by decide); have q1 := lv_neT (a := 1) h2 (by decide); have q2 := lv_neT (a := 2) h3 (by decide); have q3 := lv_neT (a := 3) h4 (by decide); have q4 := lv_neT (a := 4) h5 (by decide); have q5 := lv_neT (a := 5) h6 (by decide); have q6 := lv_neT (a := 6) h7 (by decide); have q7 := lv_neT (a := 7) h8 (by decide); have q8 := lv_neT (a := 8) h9 (by decide); have q9 := lv_neT (a := 9) h10 (by decide); have q10 := lv_neT (a := 10) h11 (by decide); omega) rfl ?_
  obtain ⟨q9, hZ⟩ := hq.2.1 ("CentrifugeUnit", 233, "nothing to look at") (by decide +kernel)
  exact xt_throw (names := ["java/lang/RuntimeException", "java/lang/Exception"]) hx hb htl hown (htt _ tw_353) (htt _ tw_354) (htt _ tw_16) hZ (xo_all htt hq hs xo_1_72) (by decide) (by decide) d_U_look_191 d_U_look_194 d_U_look_195 d_U_look_197 d_U_look_200 (B.noHandlers (hts _ List.mem_cons_self)) (hl.1.trans hml.symm) hlocks (by decide) (by decide) (by decide) (by decide)
theorem d_U_look_60 : decode bc_U_look 60 = .ok (.aload_n 0, 1) := by decide +kernel
theorem d_U_look_61 : decode bc_U_look 61 = .ok (.getfield 56, 3) := by decide +kernel
theorem d_U_look_64 : decode bc_U_look 64 = .ok (.getfield 203, 3) := by decide +kernel
theorem d_U_look_67 : decode bc_U_look 67 = .ok (.ireturn, 1) := by decide +kernel
theorem d_U_look_68 : decode bc_U_look 68 = .ok (.aload_n 0, 1) := by decide +kernel
theorem d_U_look_69 : decode bc_U_look 69 = .ok (.getfield 56, 3) := by decide +kernel
theorem d_U_look_72 : decode bc_U_look 72 = .ok (.getfield 206, 3) := by decide +kernel
theorem d_U_look_75 : decode bc_U_look 75 = .ok (.ireturn, 1) := by decide +kernel
theorem d_U_look_76 : decode bc_U_look 76 = .ok (.aload_n 0, 1) := by decide +kernel
theorem d_U_look_77 : decode bc_U_look 77 = .ok (.getfield 56, 3) := by decide +kernel
theorem d_U_look_80 : decode bc_U_look 80 = .ok (.getfield 203, 3) := by decide +kernel
theorem d_U_look_83 : decode bc_U_look 83 = .ok (.iconst 1, 1) := by decide +kernel
theorem d_U_look_84 : decode bc_U_look 84 = .ok (.if_icmp .ne 16, 3) := by decide +kernel
theorem d_U_look_87 : decode bc_U_look 87 = .ok (.aload_n 0, 1) := by decide +kernel
theorem d_U_look_88 : decode bc_U_look 88 = .ok (.getfield 56, 3) := by decide +kernel
theorem d_U_look_91 : decode bc_U_look 91 = .ok (.getfield 209, 3) := by decide +kernel
theorem d_U_look_94 : decode bc_U_look 94 = .ok (.getfield 213, 3) := by decide +kernel
theorem d_U_look_97 : decode bc_U_look 97 = .ok (.goto 4, 3) := by decide +kernel
theorem d_U_look_100 : decode bc_U_look 100 = .ok (.iconst (-1), 1) := by decide +kernel
theorem d_U_look_101 : decode bc_U_look 101 = .ok (.ireturn, 1) := by decide +kernel
theorem d_U_look_102 : decode bc_U_look 102 = .ok (.aload_n 0, 1) := by decide +kernel
theorem d_U_look_103 : decode bc_U_look 103 = .ok (.getfield 56, 3) := by decide +kernel
theorem d_U_look_106 : decode bc_U_look 106 = .ok (.getfield 190, 3) := by decide +kernel
theorem d_U_look_109 : decode bc_U_look 109 = .ok (.ireturn, 1) := by decide +kernel
theorem d_U_look_110 : decode bc_U_look 110 = .ok (.aload_n 0, 1) := by decide +kernel
theorem d_U_look_111 : decode bc_U_look 111 = .ok (.getfield 56, 3) := by decide +kernel
theorem d_U_look_114 : decode bc_U_look 114 = .ok (.getfield 193, 3) := by decide +kernel
theorem d_U_look_117 : decode bc_U_look 117 = .ok (.ireturn, 1) := by decide +kernel
theorem d_U_look_118 : decode bc_U_look 118 = .ok (.aload_n 0, 1) := by decide +kernel
theorem d_U_look_119 : decode bc_U_look 119 = .ok (.getfield 56, 3) := by decide +kernel
theorem d_U_look_122 : decode bc_U_look 122 = .ok (.getfield 218, 3) := by decide +kernel
theorem d_U_look_125 : decode bc_U_look 125 = .ok (.ifCond .eq 7, 3) := by decide +kernel
theorem d_U_look_128 : decode bc_U_look 128 = .ok (.iconst 1, 1) := by decide +kernel
theorem d_U_look_129 : decode bc_U_look 129 = .ok (.goto 4, 3) := by decide +kernel
theorem d_U_look_132 : decode bc_U_look 132 = .ok (.iconst 0, 1) := by decide +kernel
theorem d_U_look_133 : decode bc_U_look 133 = .ok (.ireturn, 1) := by decide +kernel
theorem d_U_look_134 : decode bc_U_look 134 = .ok (.aload_n 0, 1) := by decide +kernel
theorem d_U_look_135 : decode bc_U_look 135 = .ok (.getfield 33, 3) := by decide +kernel
theorem d_U_look_138 : decode bc_U_look 138 = .ok (.getfield 221, 3) := by decide +kernel
theorem d_U_look_141 : decode bc_U_look 141 = .ok (.ireturn, 1) := by decide +kernel
theorem d_U_look_142 : decode bc_U_look 142 = .ok (.aload_n 0, 1) := by decide +kernel
theorem d_U_look_143 : decode bc_U_look 143 = .ok (.getfield 33, 3) := by decide +kernel
theorem d_U_look_146 : decode bc_U_look 146 = .ok (.getfield 224, 3) := by decide +kernel
theorem d_U_look_149 : decode bc_U_look 149 = .ok (.ireturn, 1) := by decide +kernel
theorem d_U_look_150 : decode bc_U_look 150 = .ok (.aload_n 0, 1) := by decide +kernel
theorem d_U_look_151 : decode bc_U_look 151 = .ok (.getfield 56, 3) := by decide +kernel
theorem d_U_look_154 : decode bc_U_look 154 = .ok (.getfield 209, 3) := by decide +kernel
theorem d_U_look_157 : decode bc_U_look 157 = .ok (.getfield 227, 3) := by decide +kernel
theorem d_U_look_160 : decode bc_U_look 160 = .ok (.ireturn, 1) := by decide +kernel
theorem d_U_look_161 : decode bc_U_look 161 = .ok (.aload_n 0, 1) := by decide +kernel
theorem d_U_look_162 : decode bc_U_look 162 = .ok (.getfield 56, 3) := by decide +kernel
theorem d_U_look_165 : decode bc_U_look 165 = .ok (.getfield 129, 3) := by decide +kernel
theorem d_U_look_168 : decode bc_U_look 168 = .ok (.invokevirtual 133, 3) := by decide +kernel
theorem d_U_look_171 : decode bc_U_look 171 = .ok (.ifCond .eq 7, 3) := by decide +kernel
theorem d_U_look_174 : decode bc_U_look 174 = .ok (.iconst 1, 1) := by decide +kernel
theorem d_U_look_175 : decode bc_U_look 175 = .ok (.goto 4, 3) := by decide +kernel
theorem d_U_look_178 : decode bc_U_look 178 = .ok (.iconst 0, 1) := by decide +kernel
theorem d_U_look_179 : decode bc_U_look 179 = .ok (.ireturn, 1) := by decide +kernel
theorem d_U_look_180 : decode bc_U_look 180 = .ok (.aload_n 0, 1) := by decide +kernel
theorem d_U_look_181 : decode bc_U_look 181 = .ok (.getfield 56, 3) := by decide +kernel
theorem d_U_look_184 : decode bc_U_look 184 = .ok (.getfield 209, 3) := by decide +kernel
theorem d_U_look_187 : decode bc_U_look 187 = .ok (.getfield 230, 3) := by decide +kernel
theorem d_U_look_190 : decode bc_U_look 190 = .ok (.ireturn, 1) := by decide +kernel
def F_U_look_k1 (M : XM) (a1 : Int32) (z13 : Int32) : Int32 := (if z13 = 0 then 0 else 1)
def F_U_look (M : XM) (a1 : Int32) : Int32 := (if a1 = 0 then (M.1 14) else (if a1 = 1 then (M.1 15) else (if a1 = 2 then (if (M.1 14) = 1 then (M.1 26) else (-1)) else (if a1 = 3 then (M.1 16) else (if a1 = 4 then (M.1 17) else (if a1 = 5 then (if (M.1 18) = 0 then 0 else 1) else (if a1 = 6 then (M.1 4) else (if a1 = 7 then (M.1 5) else (if a1 = 8 then (M.1 23) else (if a1 = 9 then (F_U_look_k1 M a1 (F_Watch_atRest M)) else (if a1 = 10 then (M.1 28) else 0)))))))))))
set_option maxHeartbeats 4000000 in
set_option maxRecDepth 100000 in
theorem c_U_look (l : Launch) (dC : Nat → ClassId) (dI : Nat → Nat → Nat) (Z : Nat → ClassId) (A : Nat → Nat) (sz : Nat) (M : XM) (a1 : Int32) (hT : T_U_look M a1 = 0) : Met l y_U_look (.code y_U_look bc_U_look 2 (some .int) :: xw) ({ frames := 1, cells := 0, slots := 0, locals := 20 }) (va_Pc [.ref (A 0), .int a1] (xB (dC, dI) xcl (xty Z) sz [(A 0, xc0 Z A M), (A 17, xc17 Z A M), (A 11, xc11 Z A M), (A 18, xc18 Z A M), (A 19, xc19 Z A M)])) (k2_QcV (.int (F_U_look M a1))) 0 0 (fun _ => False) := by
  refine Met.ofW (cc := bc_U_look) (maxL := 2) (ret := (some .int)) (by decide) rfl ?_
  intro p e s m args below meth c s₁ B hml hv
  obtain ⟨rfl, hsz, hP, hK, hD0, hq⟩ := hv
  have hx := B.exec
  have hb := B.bytes
  have hr := B.returns
  have hts := atoms_spec (ws := (.code y_U_look bc_U_look 2 (some .int) :: xw)) B.pre
  have htt : ∀ w ∈ xw, w.before _ s = true := fun w h => hts w (List.mem_cons_of_mem _ h)
  have hown : s.vm.findClass "CentrifugeUnit" = some m.cls := findClass_of_methodNamed B.named
  have hlocks := B.notSynchronized
  subst hsz
  have hD : va_D (fun _ => True) [(A 0, .inr (9, [.ref (A 1), .ref (A 6), .ref (A 10), .ref (A 11), .ref (A 12), .ref (A 13), .ref (A 17)])), (A 17, .inr (0, [.ref (A 1), .ref (A 6), .ref (A 11), .ref (A 12), .ref (A 13), .ref (A 18), .ref (A 19), .int (M.1 12), .int (M.1 13), .int (M.1 14), .int (M.1 15), .int (M.1 16), .int (M.1 17), .int (M.1 18)])), (A 11, .inr (7, [.int (M.1 2), .int (M.1 3), .int (M.1 4), .int (M.1 5), .int (M.1 6), .int (M.1 7)])), (A 18, .inr (8, [.int (M.1 19), .int (M.1 20), .int (M.1 21), .int (M.1 22)])), (A 19, .inr (6, [.long (M.2.1 1), .long (M.2.1 2), .int (M.1 23), .int (M.1 24), .int (M.1 25), .int (M.1 26), .int (M.1 27), .int (M.1 28)]))] := hD0
  have hP : va_P (dC, dI) xcl [(A 0, .inr (9, [.ref (A 1), .ref (A 6), .ref (A 10), .ref (A 11), .ref (A 12), .ref (A 13), .ref (A 17)])), (A 17, .inr (0, [.ref (A 1), .ref (A 6), .ref (A 11), .ref (A 12), .ref (A 13), .ref (A 18), .ref (A 19), .int (M.1 12), .int (M.1 13), .int (M.1 14), .int (M.1 15), .int (M.1 16), .int (M.1 17), .int (M.1 18)])), (A 11, .inr (7, [.int (M.1 2), .int (M.1 3), .int (M.1 4), .int (M.1 5), .int (M.1 6), .int (M.1 7)])), (A 18, .inr (8, [.int (M.1 19), .int (M.1 20), .int (M.1 21), .int (M.1 22)])), (A 19, .inr (6, [.long (M.2.1 1), .long (M.2.1 2), .int (M.1 23), .int (M.1 24), .int (M.1 25), .int (M.1 26), .int (M.1 27), .int (M.1 28)]))] s.heap := hP
  have hl := lv_entry ([.ref (A 0), .int a1]) (n := 2) (Nat.le_of_ble_eq_true rfl)
  rw [lg_entry_eq]
  generalize (lg_sl ([.ref (A 0), .int a1]) ++ List.replicate (2 - (lg_sl ([.ref (A 0), .int a1])).length) Slot.unset).toArray = ls at hl ⊢
  have hl : lv_has ls 2 [(0, .ref (A 0)), (1, .int a1)] := hl
  refine lv_iload_n hx hb d_U_look_0 rfl (lv_at hl 1 rfl) ?_
  by_cases h1 : a1 = 0
  · refine lv_tableIn (off := 59) (tgt := 60) hx hb d_U_look_1 (by rw [h1]; decide) (by rw [h1]; decide) (by rw [h1]; decide) rfl ?_
    refine lv_aload_n hx hb d_U_look_60 rfl (lv_at hl 0 rfl) ?_
    refine va_get (D := (dC, dI)) (ci := 9) (v := .ref (A 17)) (C := "CentrifugeUnit") (T := xF9) (N := 7) hx hb htt xin9 hown hK hP 0 rfl rfl 6 (by decide) (htt _ tw_289) (fun _ h9 => h9) rfl d_U_look_61 ?_
    refine va_get (D := (dC, dI)) (ci := 0) (v := .int (M.1 14)) (C := "CentrifugeUnit$Control") (T := xF0) (N := 14) hx hb htt xin0 hown hK hP 1 rfl rfl 9 (by decide) (htt _ tw_245) (fun _ h9 => h9) rfl d_U_look_64 ?_
    exact W.iret hx hb hr (fun t ht hW => ⟨(by rw [F_U_look, if_pos h1]), ht⟩) (fun _ h => absurd h List.not_mem_nil) d_U_look_67
  by_cases h2 : a1 = 1
  · refine lv_tableIn (off := 67) (tgt := 68) hx hb d_U_look_1 (by rw [h2]; decide) (by rw [h2]; decide) (by rw [h2]; decide) rfl ?_
    refine lv_aload_n hx hb d_U_look_68 rfl (lv_at hl 0 rfl) ?_
    refine va_get (D := (dC, dI)) (ci := 9) (v := .ref (A 17)) (C := "CentrifugeUnit") (T := xF9) (N := 7) hx hb htt xin9 hown hK hP 0 rfl rfl 6 (by decide) (htt _ tw_289) (fun _ h9 => h9) rfl d_U_look_69 ?_
    refine va_get (D := (dC, dI)) (ci := 0) (v := .int (M.1 15)) (C := "CentrifugeUnit$Control") (T := xF0) (N := 14) hx hb htt xin0 hown hK hP 1 rfl rfl 10 (by decide) (htt _ tw_247) (fun _ h9 => h9) rfl d_U_look_72 ?_
    exact W.iret hx hb hr (fun t ht hW => ⟨(by rw [F_U_look, if_neg h1, if_pos h2]), ht⟩) (fun _ h => absurd h List.not_mem_nil) d_U_look_75
  by_cases h3 : a1 = 2
  · refine lv_tableIn (off := 75) (tgt := 76) hx hb d_U_look_1 (by rw [h3]; decide) (by rw [h3]; decide) (by rw [h3]; decide) rfl ?_
    refine lv_aload_n hx hb d_U_look_76 rfl (lv_at hl 0 rfl) ?_
    refine va_get (D := (dC, dI)) (ci := 9) (v := .ref (A 17)) (C := "CentrifugeUnit") (T := xF9) (N := 7) hx hb htt xin9 hown hK hP 0 rfl rfl 6 (by decide) (htt _ tw_289) (fun _ h9 => h9) rfl d_U_look_77 ?_
    refine va_get (D := (dC, dI)) (ci := 0) (v := .int (M.1 14)) (C := "CentrifugeUnit$Control") (T := xF0) (N := 14) hx hb htt xin0 hown hK hP 1 rfl rfl 9 (by decide) (htt _ tw_245) (fun _ h9 => h9) rfl d_U_look_80 ?_
    refine lv_iconst (v := 1) hx hb d_U_look_83 (by decide) ?_
    refine lv_icmp_ne (tgt := 100) hx hb d_U_look_84 rfl (fun h4 => ?_) (fun h4 => ?_)
    · refine lv_iconst (v := (-1)) hx hb d_U_look_100 (by decide) ?_
      exact W.iret hx hb hr (fun t ht hW => ⟨(by rw [F_U_look, if_neg h1, if_neg h2, if_pos h3, if_neg h4]), ht⟩) (fun _ h => absurd h List.not_mem_nil) d_U_look_101
    · refine lv_aload_n hx hb d_U_look_87 rfl (lv_at hl 0 rfl) ?_
      refine va_get (D := (dC, dI)) (ci := 9) (v := .ref (A 17)) (C := "CentrifugeUnit") (T := xF9) (N := 7) hx hb htt xin9 hown hK hP 0 rfl rfl 6 (by decide) (htt _ tw_289) (fun _ h9 => h9) rfl d_U_look_88 ?_
      refine va_get (D := (dC, dI)) (ci := 0) (v := .ref (A 19)) (C := "CentrifugeUnit$Control") (T := xF0) (N := 14) hx hb htt xin0 hown hK hP 1 rfl rfl 6 (by decide) (htt _ tw_239) (fun _ h9 => h9) rfl d_U_look_91 ?_
      refine va_get (D := (dC, dI)) (ci := 6) (v := .int (M.1 26)) (C := "CentrifugeUnit$Run") (T := xF6) (N := 8) hx hb htt xin6 hown hK hP 4 rfl rfl 5 (by decide) (htt _ tw_208) (fun _ h9 => h9) rfl d_U_look_94 ?_
      refine lv_goto (tgt := 101) hx hb d_U_look_97 rfl ?_
      exact W.iret hx hb hr (fun t ht hW => ⟨(by rw [F_U_look, if_neg h1, if_neg h2, if_pos h3, if_pos h4]), ht⟩) (fun _ h => absurd h List.not_mem_nil) d_U_look_101
  by_cases h5 : a1 = 3
  · refine lv_tableIn (off := 101) (tgt := 102) hx hb d_U_look_1 (by rw [h5]; decide) (by rw [h5]; decide) (by rw [h5]; decide) rfl ?_
    refine lv_aload_n hx hb d_U_look_102 rfl (lv_at hl 0 rfl) ?_
    refine va_get (D := (dC, dI)) (ci := 9) (v := .ref (A 17)) (C := "CentrifugeUnit") (T := xF9) (N := 7) hx hb htt xin9 hown hK hP 0 rfl rfl 6 (by decide) (htt _ tw_289) (fun _ h9 => h9) rfl d_U_look_103 ?_
    refine va_get (D := (dC, dI)) (ci := 0) (v := .int (M.1 16)) (C := "CentrifugeUnit$Control") (T := xF0) (N := 14) hx hb htt xin0 hown hK hP 1 rfl rfl 11 (by decide) (htt _ tw_249) (fun _ h9 => h9) rfl d_U_look_106 ?_
    exact W.iret hx hb hr (fun t ht hW => ⟨(by rw [F_U_look, if_neg h1, if_neg h2, if_neg h3, if_pos h5]), ht⟩) (fun _ h => absurd h List.not_mem_nil) d_U_look_109
  by_cases h6 : a1 = 4
  · refine lv_tableIn (off := 109) (tgt := 110) hx hb d_U_look_1 (by rw [h6]; decide) (by rw [h6]; decide) (by rw [h6]; decide) rfl ?_
    refine lv_aload_n hx hb d_U_look_110 rfl (lv_at hl 0 rfl) ?_
    refine va_get (D := (dC, dI)) (ci := 9) (v := .ref (A 17)) (C := "CentrifugeUnit") (T := xF9) (N := 7) hx hb htt xin9 hown hK hP 0 rfl rfl 6 (by decide) (htt _ tw_289) (fun _ h9 => h9) rfl d_U_look_111 ?_
    refine va_get (D := (dC, dI)) (ci := 0) (v := .int (M.1 17)) (C := "CentrifugeUnit$Control") (T := xF0) (N := 14) hx hb htt xin0 hown hK hP 1 rfl rfl 12 (by decide) (htt _ tw_251) (fun _ h9 => h9) rfl d_U_look_114 ?_
    exact W.iret hx hb hr (fun t ht hW => ⟨(by rw [F_U_look, if_neg h1, if_neg h2, if_neg h3, if_neg h5, if_pos h6]), ht⟩) (fun _ h => absurd h List.not_mem_nil) d_U_look_117
  by_cases h7 : a1 = 5
  · refine lv_tableIn (off := 117) (tgt := 118) hx hb d_U_look_1 (by rw [h7]; decide) (by rw [h7]; decide) (by rw [h7]; decide) rfl ?_
    refine lv_aload_n hx hb d_U_look_118 rfl (lv_at hl 0 rfl) ?_
    refine va_get (D := (dC, dI)) (ci := 9) (v := .ref (A 17)) (C := "CentrifugeUnit") (T := xF9) (N := 7) hx hb htt xin9 hown hK hP 0 rfl rfl 6 (by decide) (htt _ tw_289) (fun _ h9 => h9) rfl d_U_look_119 ?_
    refine va_get (D := (dC, dI)) (ci := 0) (v := .int (M.1 18)) (C := "CentrifugeUnit$Control") (T := xF0) (N := 14) hx hb htt xin0 hown hK hP 1 rfl rfl 13 (by decide) (htt _ tw_253) (fun _ h9 => h9) rfl d_U_look_122 ?_
    refine lv_if_eq (tgt := 132) hx hb d_U_look_125 rfl (fun h8 => ?_) (fun h8 => ?_)
    · refine lv_iconst (v := 0) hx hb d_U_look_132 (by decide) ?_
      exact W.iret hx hb hr (fun t ht hW => ⟨(by rw [F_U_look, if_neg h1, if_neg h2, if_neg h3, if_neg h5, if_neg h6, if_pos h7, if_pos h8]), ht⟩) (fun _ h => absurd h List.not_mem_nil) d_U_look_133
    · refine lv_iconst (v := 1) hx hb d_U_look_128 (by decide) ?_
      refine lv_goto (tgt := 133) hx hb d_U_look_129 rfl ?_
      exact W.iret hx hb hr (fun t ht hW => ⟨(by rw [F_U_look, if_neg h1, if_neg h2, if_neg h3, if_neg h5, if_neg h6, if_pos h7, if_neg h8]), ht⟩) (fun _ h => absurd h List.not_mem_nil) d_U_look_133
  by_cases h9 : a1 = 6
  · refine lv_tableIn (off := 133) (tgt := 134) hx hb d_U_look_1 (by rw [h9]; decide) (by rw [h9]; decide) (by rw [h9]; decide) rfl ?_
    refine lv_aload_n hx hb d_U_look_134 rfl (lv_at hl 0 rfl) ?_
    refine va_get (D := (dC, dI)) (ci := 9) (v := .ref (A 11)) (C := "CentrifugeUnit") (T := xF9) (N := 7) hx hb htt xin9 hown hK hP 0 rfl rfl 3 (by decide) (htt _ tw_286) (fun _ h9 => h9) rfl d_U_look_135 ?_
    refine va_get (D := (dC, dI)) (ci := 7) (v := .int (M.1 4)) (C := "CentrifugeUnit$Sensors") (T := xF7) (N := 6) hx hb htt xin7 hown hK hP 2 rfl rfl 2 (by decide) (htt _ tw_100) (fun _ h9 => h9) rfl d_U_look_138 ?_
    exact W.iret hx hb hr (fun t ht hW => ⟨(by rw [F_U_look, if_neg h1, if_neg h2, if_neg h3, if_neg h5, if_neg h6, if_neg h7, if_pos h9]), ht⟩) (fun _ h => absurd h List.not_mem_nil) d_U_look_141
  by_cases h10 : a1 = 7
  · refine lv_tableIn (off := 141) (tgt := 142) hx hb d_U_look_1 (by rw [h10]; decide) (by rw [h10]; decide) (by rw [h10]; decide) rfl ?_
    refine lv_aload_n hx hb d_U_look_142 rfl (lv_at hl 0 rfl) ?_
    refine va_get (D := (dC, dI)) (ci := 9) (v := .ref (A 11)) (C := "CentrifugeUnit") (T := xF9) (N := 7) hx hb htt xin9 hown hK hP 0 rfl rfl 3 (by decide) (htt _ tw_286) (fun _ h9 => h9) rfl d_U_look_143 ?_
    refine va_get (D := (dC, dI)) (ci := 7) (v := .int (M.1 5)) (C := "CentrifugeUnit$Sensors") (T := xF7) (N := 6) hx hb htt xin7 hown hK hP 2 rfl rfl 3 (by decide) (htt _ tw_102) (fun _ h9 => h9) rfl d_U_look_146 ?_
    exact W.iret hx hb hr (fun t ht hW => ⟨(by rw [F_U_look, if_neg h1, if_neg h2, if_neg h3, if_neg h5, if_neg h6, if_neg h7, if_neg h9, if_pos h10]), ht⟩) (fun _ h => absurd h List.not_mem_nil) d_U_look_149
  by_cases h11 : a1 = 8
  · refine lv_tableIn (off := 149) (tgt := 150) hx hb d_U_look_1 (by rw [h11]; decide) (by rw [h11]; decide) (by rw [h11]; decide) rfl ?_
    refine lv_aload_n hx hb d_U_look_150 rfl (lv_at hl 0 rfl) ?_
    refine va_get (D := (dC, dI)) (ci := 9) (v := .ref (A 17)) (C := "CentrifugeUnit") (T := xF9) (N := 7) hx hb htt xin9 hown hK hP 0 rfl rfl 6 (by decide) (htt _ tw_289) (fun _ h9 => h9) rfl d_U_look_151 ?_
    refine va_get (D := (dC, dI)) (ci := 0) (v := .ref (A 19)) (C := "CentrifugeUnit$Control") (T := xF0) (N := 14) hx hb htt xin0 hown hK hP 1 rfl rfl 6 (by decide) (htt _ tw_239) (fun _ h9 => h9) rfl d_U_look_154 ?_
    refine va_get (D := (dC, dI)) (ci := 6) (v := .int (M.1 23)) (C := "CentrifugeUnit$Run") (T := xF6) (N := 8) hx hb htt xin6 hown hK hP 4 rfl rfl 2 (by decide) (htt _ tw_201) (fun _ h9 => h9) rfl d_U_look_157 ?_
    exact W.iret hx hb hr (fun t ht hW => ⟨(by rw [F_U_look, if_neg h1, if_neg h2, if_neg h3, if_neg h5, if_neg h6, if_neg h7, if_neg h9, if_neg h10, if_pos h11]), ht⟩) (fun _ h => absurd h List.not_mem_nil) d_U_look_160
  by_cases h12 : a1 = 9
  · refine lv_tableIn (off := 160) (tgt := 161) hx hb d_U_look_1 (by rw [h12]; decide) (by rw [h12]; decide) (by rw [h12]; decide) rfl ?_
    refine lv_aload_n hx hb d_U_look_161 rfl (lv_at hl 0 rfl) ?_
    refine va_get (D := (dC, dI)) (ci := 9) (v := .ref (A 17)) (C := "CentrifugeUnit") (T := xF9) (N := 7) hx hb htt xin9 hown hK hP 0 rfl rfl 6 (by decide) (htt _ tw_289) (fun _ h9 => h9) rfl d_U_look_162 ?_
    refine va_get (D := (dC, dI)) (ci := 0) (v := .ref (A 18)) (C := "CentrifugeUnit$Control") (T := xF0) (N := 14) hx hb htt xin0 hown hK hP 1 rfl rfl 5 (by decide) (htt _ tw_237) (fun _ h9 => h9) rfl d_U_look_165 ?_
    have hPc := hP.sub (ws' := [(A 18, xc18 Z A M)]) [3] rfl
    have hDc := hD.sub (ws' := [(A 18, xc18 Z A M)]) [3] (by decide) rfl
    refine xk_p (va_runV (As := []) (rest := []) ⟨hx, hb, hml, hown, hts⟩ (c_Watch_atRest l dC dI Z A _ M) (cwV 0 hts (xw_V _ tw_517 tw_518 tw_519 tw_10 tw_520) rfl rfl rfl (by decide +kernel) ⟨Nat.le_of_ble_eq_true rfl, Nat.le_of_ble_eq_true rfl⟩) ⟨xB_blind, va_recv (q0 := 3) (ci := 8) hK hP rfl rfl, fun U hU hW => ⟨rfl, xB_at hPc hK hDc hq U hU hW⟩⟩ rfl rfl hl.1 rfl (lv_room (Nat.le_of_ble_eq_true rfl)) d_U_look_168 ⟨Nat.le_of_ble_eq_true rfl, Nat.le_of_ble_eq_true rfl⟩) ?_
    refine lv_topi (fun z13 hz13 => ?_)
    refine lv_if_eq (tgt := 178) hx hb d_U_look_171 rfl (fun h14 => ?_) (fun h14 => ?_)
    · refine lv_iconst (v := 0) hx hb d_U_look_178 (by decide) ?_
      exact W.iret hx hb hr (fun t ht hW => ⟨(by rw [F_U_look, if_neg h1, if_neg h2, if_neg h3, if_neg h5, if_neg h6, if_neg h7, if_neg h9, if_neg h10, if_neg h11, if_pos h12, ← hz13, F_U_look_k1, if_pos h14]), ht⟩) (fun _ h => absurd h List.not_mem_nil) d_U_look_179
    · refine lv_iconst (v := 1) hx hb d_U_look_174 (by decide) ?_
      refine lv_goto (tgt := 179) hx hb d_U_look_175 rfl ?_
      exact W.iret hx hb hr (fun t ht hW => ⟨(by rw [F_U_look, if_neg h1, if_neg h2, if_neg h3, if_neg h5, if_neg h6, if_neg h7, if_neg h9, if_neg h10, if_neg h11, if_pos h12, ← hz13, F_U_look_k1, if_neg h14]), ht⟩) (fun _ h => absurd h List.not_mem_nil) d_U_look_179
  by_cases h15 : a1 = 10
  · refine lv_tableIn (off := 179) (tgt := 180) hx hb d_U_look_1 (by rw [h15]; decide) (by rw [h15]; decide) (by rw [h15]; decide) rfl ?_
    refine lv_aload_n hx hb d_U_look_180 rfl (lv_at hl 0 rfl) ?_
    refine va_get (D := (dC, dI)) (ci := 9) (v := .ref (A 17)) (C := "CentrifugeUnit") (T := xF9) (N := 7) hx hb htt xin9 hown hK hP 0 rfl rfl 6 (by decide) (htt _ tw_289) (fun _ h9 => h9) rfl d_U_look_181 ?_
    refine va_get (D := (dC, dI)) (ci := 0) (v := .ref (A 19)) (C := "CentrifugeUnit$Control") (T := xF0) (N := 14) hx hb htt xin0 hown hK hP 1 rfl rfl 6 (by decide) (htt _ tw_239) (fun _ h9 => h9) rfl d_U_look_184 ?_
    refine va_get (D := (dC, dI)) (ci := 6) (v := .int (M.1 28)) (C := "CentrifugeUnit$Run") (T := xF6) (N := 8) hx hb htt xin6 hown hK hP 4 rfl rfl 7 (by decide) (htt _ tw_212) (fun _ h9 => h9) rfl d_U_look_187 ?_
    exact W.iret hx hb hr (fun t ht hW => ⟨(by rw [F_U_look, if_neg h1, if_neg h2, if_neg h3, if_neg h5, if_neg h6, if_neg h7, if_neg h9, if_neg h10, if_neg h11, if_neg h12, if_pos h15]), ht⟩) (fun _ h => absurd h List.not_mem_nil) d_U_look_190
  refine lv_tableOut (tgt := 191) hx hb d_U_look_1 (by have q0 := lv_neT (a := 0) h1 (by decide); have q1 := lv_neT (a := 1) h2 (by decide); have q2 := lv_neT (a := 2) h3 (by decide); have q3 := lv_neT (a := 3) h5 (by decide); have q4 := lv_neT (a := 4) h6 (by decide); have q5 := lv_neT (a := 5) h7 (by decide); have q6 := lv_neT (a := 6) h9 (by decide); have q7 := lv_neT (a := 7) h10 (by decide); have q8 := lv_neT (a := 8) h11 (by decide); have q9 := lv_neT (a := 9) h12 (by decide); have q10 := lv_neT (a := 10) h15 (by decide); omega) rfl ?_
  exact absurd hT (by rw [T_U_look, if_neg h1, if_neg h2, if_neg h3, if_neg h5, if_neg h6, if_neg h7, if_neg h9, if_neg h10, if_neg h11, if_neg h12, if_neg h15]; exact (by decide : ¬ (1 : Nat) = 0))
abbrev bc_U_force : ByteArray := prog_1_method_16_code
def y_U_force : MethodName := ⟨"CentrifugeUnit", "force", "()J"⟩
theorem d_U_force_0 : decode bc_U_force 0 = .ok (.aload_n 0, 1) := by decide +kernel
theorem d_U_force_1 : decode bc_U_force 1 = .ok (.getfield 33, 3) := by decide +kernel
theorem d_U_force_4 : decode bc_U_force 4 = .ok (.getfield 239, 3) := by decide +kernel
theorem d_U_force_7 : decode bc_U_force 7 = .ok (.i2l, 1) := by decide +kernel
theorem d_U_force_8 : decode bc_U_force 8 = .ok (.lstore_n 1, 1) := by decide +kernel
theorem d_U_force_9 : decode bc_U_force 9 = .ok (.ldc2_w 242, 3) := by decide +kernel
theorem d_U_force_12 : decode bc_U_force 12 = .ok (.aload_n 0, 1) := by decide +kernel
theorem d_U_force_13 : decode bc_U_force 13 = .ok (.getfield 10, 3) := by decide +kernel
theorem d_U_force_16 : decode bc_U_force 16 = .ok (.aload_n 0, 1) := by decide +kernel
theorem d_U_force_17 : decode bc_U_force 17 = .ok (.getfield 56, 3) := by decide +kernel
theorem d_U_force_20 : decode bc_U_force 20 = .ok (.getfield 209, 3) := by decide +kernel
theorem d_U_force_23 : decode bc_U_force 23 = .ok (.getfield 227, 3) := by decide +kernel
theorem d_U_force_26 : decode bc_U_force 26 = .ok (.invokevirtual 244, 3) := by decide +kernel
theorem d_U_force_29 : decode bc_U_force 29 = .ok (.i2l, 1) := by decide +kernel
theorem d_U_force_30 : decode bc_U_force 30 = .ok (.lmul, 1) := by decide +kernel
theorem d_U_force_31 : decode bc_U_force 31 = .ok (.lload_n 1, 1) := by decide +kernel
theorem d_U_force_32 : decode bc_U_force 32 = .ok (.lmul, 1) := by decide +kernel
theorem d_U_force_33 : decode bc_U_force 33 = .ok (.lload_n 1, 1) := by decide +kernel
theorem d_U_force_34 : decode bc_U_force 34 = .ok (.lmul, 1) := by decide +kernel
theorem d_U_force_35 : decode bc_U_force 35 = .ok (.ldc2_w 248, 3) := by decide +kernel
theorem d_U_force_38 : decode bc_U_force 38 = .ok (.ldiv, 1) := by decide +kernel
theorem d_U_force_39 : decode bc_U_force 39 = .ok (.lreturn, 1) := by decide +kernel
def F_U_force_k1 (M : XM) (z1 : Int32) : Int64 := ((((1118 * (z1).toInt64) * ((M.1 6)).toInt64) * ((M.1 6)).toInt64) / 1000000)
def F_U_force (M : XM) : Int64 := (F_U_force_k1 M (F_Rotors_radiusOf M (M.1 23)))
set_option maxHeartbeats 4000000 in
set_option maxRecDepth 100000 in
theorem c_U_force (l : Launch) (dC : Nat → ClassId) (dI : Nat → Nat → Nat) (Z : Nat → ClassId) (A : Nat → Nat) (sz : Nat) (M : XM) : Met l y_U_force (.code y_U_force bc_U_force 3 (some .long) :: xw) ({ frames := 3, cells := 0, slots := 0, locals := 63 }) (va_Pc [.ref (A 0)] (xB (dC, dI) xcl (xty Z) sz [(A 0, xc0 Z A M), (A 11, xc11 Z A M), (A 1, xc1 Z A M), (A 3, xc3 Z A M), (A 17, xc17 Z A M), (A 19, xc19 Z A M)])) (k2_QcV (.long (F_U_force M))) 0 0 (fun _ => False) := by
  refine Met.ofW (cc := bc_U_force) (maxL := 3) (ret := (some .long)) (by decide) rfl ?_
  intro p e s m args below meth c s₁ B hml hv
  obtain ⟨rfl, hsz, hP, hK, hD0, hq⟩ := hv
  have hx := B.exec
  have hb := B.bytes
  have hr := B.returns
  have hts := atoms_spec (ws := (.code y_U_force bc_U_force 3 (some .long) :: xw)) B.pre
  have htt : ∀ w ∈ xw, w.before _ s = true := fun w h => hts w (List.mem_cons_of_mem _ h)
  have hown : s.vm.findClass "CentrifugeUnit" = some m.cls := findClass_of_methodNamed B.named
  have hlocks := B.notSynchronized
  subst hsz
  have hD : va_D (fun _ => True) [(A 0, .inr (9, [.ref (A 1), .ref (A 6), .ref (A 10), .ref (A 11), .ref (A 12), .ref (A 13), .ref (A 17)])), (A 11, .inr (7, [.int (M.1 2), .int (M.1 3), .int (M.1 4), .int (M.1 5), .int (M.1 6), .int (M.1 7)])), (A 1, .inr (5, [.ref (A 2), .ref (A 3), .ref (A 4), .ref (A 5), .int (M.1 0)])), (A 3, .inl (Z 0, 4, .inl (M.2.2.1 3))), (A 17, .inr (0, [.ref (A 1), .ref (A 6), .ref (A 11), .ref (A 12), .ref (A 13), .ref (A 18), .ref (A 19), .int (M.1 12), .int (M.1 13), .int (M.1 14), .int (M.1 15), .int (M.1 16), .int (M.1 17), .int (M.1 18)])), (A 19, .inr (6, [.long (M.2.1 1), .long (M.2.1 2), .int (M.1 23), .int (M.1 24), .int (M.1 25), .int (M.1 26), .int (M.1 27), .int (M.1 28)]))] := hD0
  have hP : va_P (dC, dI) xcl [(A 0, .inr (9, [.ref (A 1), .ref (A 6), .ref (A 10), .ref (A 11), .ref (A 12), .ref (A 13), .ref (A 17)])), (A 11, .inr (7, [.int (M.1 2), .int (M.1 3), .int (M.1 4), .int (M.1 5), .int (M.1 6), .int (M.1 7)])), (A 1, .inr (5, [.ref (A 2), .ref (A 3), .ref (A 4), .ref (A 5), .int (M.1 0)])), (A 3, .inl (Z 0, 4, .inl (M.2.2.1 3))), (A 17, .inr (0, [.ref (A 1), .ref (A 6), .ref (A 11), .ref (A 12), .ref (A 13), .ref (A 18), .ref (A 19), .int (M.1 12), .int (M.1 13), .int (M.1 14), .int (M.1 15), .int (M.1 16), .int (M.1 17), .int (M.1 18)])), (A 19, .inr (6, [.long (M.2.1 1), .long (M.2.1 2), .int (M.1 23), .int (M.1 24), .int (M.1 25), .int (M.1 26), .int (M.1 27), .int (M.1 28)]))] s.heap := hP
  have hl := lv_entry ([.ref (A 0)]) (n := 3) (Nat.le_of_ble_eq_true rfl)
  rw [lg_entry_eq]
  generalize (lg_sl ([.ref (A 0)]) ++ List.replicate (3 - (lg_sl ([.ref (A 0)])).length) Slot.unset).toArray = ls at hl ⊢
  have hl : lv_has ls 3 [(0, .ref (A 0))] := hl
  refine lv_aload_n hx hb d_U_force_0 rfl (lv_at hl 0 rfl) ?_
  refine va_get (D := (dC, dI)) (ci := 9) (v := .ref (A 11)) (C := "CentrifugeUnit") (T := xF9) (N := 7) hx hb htt xin9 hown hK hP 0 rfl rfl 3 (by decide) (htt _ tw_286) (fun _ h9 => h9) rfl d_U_force_1 ?_
  refine va_get (D := (dC, dI)) (ci := 7) (v := .int (M.1 6)) (C := "CentrifugeUnit$Sensors") (T := xF7) (N := 6) hx hb htt xin7 hown hK hP 1 rfl rfl 4 (by decide) (htt _ tw_106) (fun _ h9 => h9) rfl d_U_force_4 ?_
  refine lv_i2l (v := ((M.1 6)).toInt64) hx hb d_U_force_7 rfl ?_
  refine lv_lstore_n (lv' := [(1, .long ((M.1 6)).toInt64), (0, .ref (A 0))]) hx hb d_U_force_8 rfl hl (by decide) rfl (fun ls hl => ?_)
  refine lv_ldc2 (v := 1118) hx hb hown (htt _ tw_317) d_U_force_9 ?_
  refine lv_aload_n hx hb d_U_force_12 rfl (lv_at hl 1 rfl) ?_
  refine va_get (D := (dC, dI)) (ci := 9) (v := .ref (A 1)) (C := "CentrifugeUnit") (T := xF9) (N := 7) hx hb htt xin9 hown hK hP 0 rfl rfl 0 (by decide) (htt _ tw_283) (fun _ h9 => h9) rfl d_U_force_13 ?_
  refine lv_aload_n hx hb d_U_force_16 rfl (lv_at hl 1 rfl) ?_
  refine va_get (D := (dC, dI)) (ci := 9) (v := .ref (A 17)) (C := "CentrifugeUnit") (T := xF9) (N := 7) hx hb htt xin9 hown hK hP 0 rfl rfl 6 (by decide) (htt _ tw_289) (fun _ h9 => h9) rfl d_U_force_17 ?_
  refine va_get (D := (dC, dI)) (ci := 0) (v := .ref (A 19)) (C := "CentrifugeUnit$Control") (T := xF0) (N := 14) hx hb htt xin0 hown hK hP 4 rfl rfl 6 (by decide) (htt _ tw_239) (fun _ h9 => h9) rfl d_U_force_20 ?_
  refine va_get (D := (dC, dI)) (ci := 6) (v := .int (M.1 23)) (C := "CentrifugeUnit$Run") (T := xF6) (N := 8) hx hb htt xin6 hown hK hP 5 rfl rfl 2 (by decide) (htt _ tw_201) (fun _ h9 => h9) rfl d_U_force_23 ?_
  have hPc := hP.sub (ws' := [(A 1, xc1 Z A M), (A 3, xc3 Z A M)]) [2, 3] rfl
  have hDc := hD.sub (ws' := [(A 1, xc1 Z A M), (A 3, xc3 Z A M)]) [2, 3] (by decide) rfl
  refine xk_p (va_runV (As := [.int (M.1 23)]) (rest := [.long 1118]) ⟨hx, hb, hml, hown, hts⟩ (c_Rotors_radiusOf l dC dI Z A _ M (M.1 23)) (cwV 1 hts (xw_V _ tw_318 tw_319 tw_320 tw_2 tw_321) rfl rfl rfl (by decide +kernel) ⟨Nat.le_of_ble_eq_true rfl, Nat.le_of_ble_eq_true rfl⟩) ⟨xB_blind, va_recv (q0 := 2) (ci := 5) hK hP rfl rfl, fun U hU hW => ⟨rfl, xB_at hPc hK hDc hq U hU hW⟩⟩ rfl rfl hl.1 rfl (lv_room (Nat.le_of_ble_eq_true rfl)) d_U_force_26 ⟨Nat.le_of_ble_eq_true rfl, Nat.le_of_ble_eq_true rfl⟩) ?_
  refine lv_topi (fun z1 hz1 => ?_)
  refine lv_i2l (v := (z1).toInt64) hx hb d_U_force_29 rfl ?_
  refine lv_lmul hx hb d_U_force_30 ?_
  refine lv_lload_n hx hb d_U_force_31 rfl (lv_at hl 0 rfl) ?_
  refine lv_lmul hx hb d_U_force_32 ?_
  refine lv_lload_n hx hb d_U_force_33 rfl (lv_at hl 0 rfl) ?_
  refine lv_lmul hx hb d_U_force_34 ?_
  refine lv_ldc2 (v := 1000000) hx hb hown (htt _ tw_328) d_U_force_35 ?_
  refine lv_ldiv hx hb d_U_force_38 (by decide) ?_
  exact W.lret hx hb hr (fun t ht hW => ⟨(by rw [F_U_force, ← hz1, F_U_force_k1]), ht⟩) (fun _ h => absurd h List.not_mem_nil) d_U_force_39
abbrev bc_U_record : ByteArray := prog_1_method_18_code
def y_U_record : MethodName := ⟨"CentrifugeUnit", "record", "(II)J"⟩
theorem d_U_record_0 : decode bc_U_record 0 = .ok (.iload_n 2, 1) := by decide +kernel
theorem d_U_record_1 : decode bc_U_record 1 = .ok (.iconst 0, 1) := by decide +kernel
theorem d_U_record_2 : decode bc_U_record 2 = .ok (.iconst 2, 1) := by decide +kernel
theorem d_U_record_3 : decode bc_U_record 3 = .ok (.invokestatic 151, 3) := by decide +kernel
theorem d_U_record_6 : decode bc_U_record 6 = .ok (.ifCond .ne 13, 3) := by decide +kernel
theorem d_U_record_9 : decode bc_U_record 9 = .ok (.new 68, 3) := by decide +kernel
theorem d_U_record_12 : decode bc_U_record 12 = .ok (.dup, 1) := by decide +kernel
theorem d_U_record_13 : decode bc_U_record 13 = .ok (.ldc 253, 2) := by decide +kernel
theorem d_U_record_15 : decode bc_U_record 15 = .ok (.invokespecial 72, 3) := by decide +kernel
theorem d_U_record_18 : decode bc_U_record 18 = .ok (.athrow, 1) := by decide +kernel
theorem d_U_record_19 : decode bc_U_record 19 = .ok (.iload_n 1, 1) := by decide +kernel
theorem d_U_record_20 : decode bc_U_record 20 = .ok (.iconst (-1), 1) := by decide +kernel
theorem d_U_record_21 : decode bc_U_record 21 = .ok (.if_icmp .ne 12, 3) := by decide +kernel
theorem d_U_record_33 : decode bc_U_record 33 = .ok (.aload_n 0, 1) := by decide +kernel
theorem d_U_record_34 : decode bc_U_record 34 = .ok (.getfield 47, 3) := by decide +kernel
theorem d_U_record_37 : decode bc_U_record 37 = .ok (.iload_n 1, 1) := by decide +kernel
theorem d_U_record_38 : decode bc_U_record 38 = .ok (.invokevirtual 258, 3) := by decide +kernel
theorem d_U_record_41 : decode bc_U_record 41 = .ok (.ifCond .ne 14, 3) := by decide +kernel
theorem d_U_record_44 : decode bc_U_record 44 = .ok (.new 261, 3) := by decide +kernel
def T_U_record_k2 (M : XM) (a1 : Int32) (a2 : Int32) (z1 : Int32) (z4 : Int32) : Nat := (if z4 = 0 then 3 else 0)
def T_U_record_k1 (M : XM) (a1 : Int32) (a2 : Int32) (z1 : Int32) : Nat := (if z1 = 0 then 1 else (if a1 = (-1) then 0 else (T_U_record_k2 M a1 a2 z1 (F_Records_keeps M a1))))
def T_U_record (M : XM) (a1 : Int32) (a2 : Int32) : Nat := (T_U_record_k1 M a1 a2 (F_U_within M a2 0 2))
set_option maxHeartbeats 4000000 in
set_option maxRecDepth 100000 in
theorem t1_U_record (l : Launch) (dC : Nat → ClassId) (dI : Nat → Nat → Nat) (Z : Nat → ClassId) (A : Nat → Nat) (sz : Nat) (M : XM) (a1 : Int32) (a2 : Int32) (htl : l.stackTraces = false) (hT : T_U_record M a1 a2 = 1) : MetT l y_U_record (.code y_U_record bc_U_record 3 (some .long) :: xw) ({ frames := 6, cells := 1, slots := 6, locals := 90 }) (va_Pc [.ref (A 0), .int a1, .int a2] (xBs (dC, dI) xcl (xty Z) sz [(A 0, xc0 Z A M), (A 13, xc13 Z A M), (A 14, xc14 Z A M), (A 15, xc15 Z A M), (A 16, xc16 Z A M)])) xIAE 1 6 := by
  refine MetT.ofW (cc := bc_U_record) (maxL := 3) (ret := (some .long)) (by decide) rfl ?_
  intro p e s m args below meth c s₁ B hml hv
  obtain ⟨rfl, ⟨hsz, hP, hK, hD0, hq⟩, hs⟩ := hv
  have hx := B.exec
  have hb := B.bytes
  have hts := atoms_spec (ws := (.code y_U_record bc_U_record 3 (some .long) :: xw)) B.pre
  have htt : ∀ w ∈ xw, w.before _ s = true := fun w h => hts w (List.mem_cons_of_mem _ h)
  have hown : s.vm.findClass "CentrifugeUnit" = some m.cls := findClass_of_methodNamed B.named
  have hlocks := B.notSynchronized
  subst hsz
  have hD : va_D (fun _ => True) [(A 0, .inr (9, [.ref (A 1), .ref (A 6), .ref (A 10), .ref (A 11), .ref (A 12), .ref (A 13), .ref (A 17)])), (A 13, .inr (4, [.ref (A 14), .ref (A 15), .ref (A 16), .int (M.1 11)])), (A 14, .inl (Z 0, 16, .inl (M.2.2.1 14))), (A 15, .inl (Z 1, 16, .inr (.inl (M.2.2.2 15)))), (A 16, .inl (Z 0, 16, .inl (M.2.2.1 16)))] := hD0
  have hP : va_P (dC, dI) xcl [(A 0, .inr (9, [.ref (A 1), .ref (A 6), .ref (A 10), .ref (A 11), .ref (A 12), .ref (A 13), .ref (A 17)])), (A 13, .inr (4, [.ref (A 14), .ref (A 15), .ref (A 16), .int (M.1 11)])), (A 14, .inl (Z 0, 16, .inl (M.2.2.1 14))), (A 15, .inl (Z 1, 16, .inr (.inl (M.2.2.2 15)))), (A 16, .inl (Z 0, 16, .inl (M.2.2.1 16)))] s.heap := hP
  have hl := lv_entry ([.ref (A 0), .int a1, .int a2]) (n := 3) (Nat.le_of_ble_eq_true rfl)
  rw [lg_entry_eq]
  generalize (lg_sl ([.ref (A 0), .int a1, .int a2]) ++ List.replicate (3 - (lg_sl ([.ref (A 0), .int a1, .int a2])).length) Slot.unset).toArray = ls at hl ⊢
  have hl : lv_has ls 3 [(0, .ref (A 0)), (1, .int a1), (2, .int a2)] := hl
  refine lv_iload_n hx hb d_U_record_0 rfl (lv_at hl 2 rfl) ?_
  refine lv_iconst (v := 0) hx hb d_U_record_1 (by decide) ?_
  refine lv_iconst (v := 2) hx hb d_U_record_2 (by decide) ?_
  have hPc := hP.sub (ws' := []) [] rfl
  have hDc := hD.sub (ws' := []) [] (by decide) rfl
  refine xk_p (va_runS (As := [.int a2, .int 0, .int 2]) (rest := []) ⟨hx, hb, hml, hown, hts⟩ (c_U_within l dC dI Z A _ M a2 0 2) (va_cwS 3 hts (xw_S _ tw_534 tw_326 tw_1 tw_327) rfl rfl rfl (by decide +kernel) ⟨Nat.le_of_ble_eq_true rfl, Nat.le_of_ble_eq_true rfl⟩) ⟨xB_blind, fun U hU hW => ⟨rfl, xB_at hPc hK hDc hq U hU hW⟩⟩ rfl rfl hl.1 rfl (lv_room (Nat.le_of_ble_eq_true rfl)) d_U_record_3 ⟨Nat.le_of_ble_eq_true rfl, Nat.le_of_ble_eq_true rfl⟩) ?_
  refine lv_topi (fun z1 hz1 => ?_)
  refine lv_if_ne (tgt := 19) hx hb d_U_record_6 rfl (fun h2 => ?_) (fun h2 => ?_)
  · refine lv_iload_n hx hb d_U_record_19 rfl (lv_at hl 1 rfl) ?_
    refine lv_iconst (v := (-1)) hx hb d_U_record_20 (by decide) ?_
    refine lv_icmp_ne (tgt := 33) hx hb d_U_record_21 rfl (fun h3 => ?_) (fun h3 => ?_)
    · refine lv_aload_n hx hb d_U_record_33 rfl (lv_at hl 0 rfl) ?_
      refine va_get (D := (dC, dI)) (ci := 9) (v := .ref (A 13)) (C := "CentrifugeUnit") (T := xF9) (N := 7) hx hb htt xin9 hown hK hP 0 rfl rfl 5 (by decide) (htt _ tw_288) (fun _ h9 => h9) rfl d_U_record_34 ?_
      refine lv_iload_n hx hb d_U_record_37 rfl (lv_at hl 1 rfl) ?_
      have hPc := hP.sub (ws' := [(A 13, xc13 Z A M)]) [1] rfl
      have hDc := hD.sub (ws' := [(A 13, xc13 Z A M)]) [1] (by decide) rfl
      refine xk_p (va_runV (As := [.int a1]) (rest := []) ⟨hx, hb, hml, hown, hts⟩ (c_Records_keeps l dC dI Z A _ M a1) (cwV 1 hts (xw_V _ tw_749 tw_750 tw_751 tw_8 tw_752) rfl rfl rfl (by decide +kernel) ⟨Nat.le_of_ble_eq_true rfl, Nat.le_of_ble_eq_true rfl⟩) ⟨xB_blind, va_recv (q0 := 1) (ci := 4) hK hP rfl rfl, fun U hU hW => ⟨rfl, xB_at hPc hK hDc hq U hU hW⟩⟩ rfl rfl hl.1 rfl (lv_room (Nat.le_of_ble_eq_true rfl)) d_U_record_38 ⟨Nat.le_of_ble_eq_true rfl, Nat.le_of_ble_eq_true rfl⟩) ?_
      refine lv_topi (fun z4 hz4 => ?_)
      refine lv_if_ne (tgt := 55) hx hb d_U_record_41 rfl (fun h5 => ?_) (fun h5 => ?_)
      · exact absurd hT (by rw [T_U_record, ← hz1, T_U_record_k1, if_neg h2, if_neg h3, ← hz4, T_U_record_k2, if_neg h5]; exact (by decide : ¬ (0 : Nat) = 1))
      · exact absurd hT (by rw [T_U_record, ← hz1, T_U_record_k1, if_neg h2, if_neg h3, ← hz4, T_U_record_k2, if_pos h5]; exact (by decide : ¬ (3 : Nat) = 1))
    · exact absurd hT (by rw [T_U_record, ← hz1, T_U_record_k1, if_neg h2, if_pos h3]; exact (by decide : ¬ (0 : Nat) = 1))
  · obtain ⟨q9, hZ⟩ := hq.2.1 ("CentrifugeUnit", 253, "nothing of a record") (by decide +kernel)
    exact xt_throw (names := ["java/lang/RuntimeException", "java/lang/Exception"]) hx hb htl hown (htt _ tw_353) (htt _ tw_354) (htt _ tw_16) hZ (xo_all htt hq hs xo_1_72) (by decide) (by decide) d_U_record_9 d_U_record_12 d_U_record_13 d_U_record_15 d_U_record_18 (B.noHandlers (hts _ List.mem_cons_self)) (hl.1.trans hml.symm) hlocks (by decide) (by decide) (by decide) (by decide)
theorem d_U_record_47 : decode bc_U_record 47 = .ok (.dup, 1) := by decide +kernel
theorem d_U_record_48 : decode bc_U_record 48 = .ok (.ldc_w 263, 3) := by decide +kernel
theorem d_U_record_51 : decode bc_U_record 51 = .ok (.invokespecial 265, 3) := by decide +kernel
theorem d_U_record_54 : decode bc_U_record 54 = .ok (.athrow, 1) := by decide +kernel
set_option maxHeartbeats 4000000 in
set_option maxRecDepth 100000 in
theorem t3_U_record (l : Launch) (dC : Nat → ClassId) (dI : Nat → Nat → Nat) (Z : Nat → ClassId) (A : Nat → Nat) (sz : Nat) (M : XM) (a1 : Int32) (a2 : Int32) (htl : l.stackTraces = false) (hT : T_U_record M a1 a2 = 3) : MetT l y_U_record (.code y_U_record bc_U_record 3 (some .long) :: xw) ({ frames := 6, cells := 1, slots := 6, locals := 90 }) (va_Pc [.ref (A 0), .int a1, .int a2] (xBs (dC, dI) xcl (xty Z) sz [(A 0, xc0 Z A M), (A 13, xc13 Z A M), (A 14, xc14 Z A M), (A 15, xc15 Z A M), (A 16, xc16 Z A M)])) xIOB 1 6 := by
  refine MetT.ofW (cc := bc_U_record) (maxL := 3) (ret := (some .long)) (by decide) rfl ?_
  intro p e s m args below meth c s₁ B hml hv
  obtain ⟨rfl, ⟨hsz, hP, hK, hD0, hq⟩, hs⟩ := hv
  have hx := B.exec
  have hb := B.bytes
  have hts := atoms_spec (ws := (.code y_U_record bc_U_record 3 (some .long) :: xw)) B.pre
  have htt : ∀ w ∈ xw, w.before _ s = true := fun w h => hts w (List.mem_cons_of_mem _ h)
  have hown : s.vm.findClass "CentrifugeUnit" = some m.cls := findClass_of_methodNamed B.named
  have hlocks := B.notSynchronized
  subst hsz
  have hD : va_D (fun _ => True) [(A 0, .inr (9, [.ref (A 1), .ref (A 6), .ref (A 10), .ref (A 11), .ref (A 12), .ref (A 13), .ref (A 17)])), (A 13, .inr (4, [.ref (A 14), .ref (A 15), .ref (A 16), .int (M.1 11)])), (A 14, .inl (Z 0, 16, .inl (M.2.2.1 14))), (A 15, .inl (Z 1, 16, .inr (.inl (M.2.2.2 15)))), (A 16, .inl (Z 0, 16, .inl (M.2.2.1 16)))] := hD0
  have hP : va_P (dC, dI) xcl [(A 0, .inr (9, [.ref (A 1), .ref (A 6), .ref (A 10), .ref (A 11), .ref (A 12), .ref (A 13), .ref (A 17)])), (A 13, .inr (4, [.ref (A 14), .ref (A 15), .ref (A 16), .int (M.1 11)])), (A 14, .inl (Z 0, 16, .inl (M.2.2.1 14))), (A 15, .inl (Z 1, 16, .inr (.inl (M.2.2.2 15)))), (A 16, .inl (Z 0, 16, .inl (M.2.2.1 16)))] s.heap := hP
  have hl := lv_entry ([.ref (A 0), .int a1, .int a2]) (n := 3) (Nat.le_of_ble_eq_true rfl)
  rw [lg_entry_eq]
  generalize (lg_sl ([.ref (A 0), .int a1, .int a2]) ++ List.replicate (3 - (lg_sl ([.ref (A 0), .int a1, .int a2])).length) Slot.unset).toArray = ls at hl ⊢
  have hl : lv_has ls 3 [(0, .ref (A 0)), (1, .int a1), (2, .int a2)] := hl
  refine lv_iload_n hx hb d_U_record_0 rfl (lv_at hl 2 rfl) ?_
  refine lv_iconst (v := 0) hx hb d_U_record_1 (by decide) ?_
  refine lv_iconst (v := 2) hx hb d_U_record_2 (by decide) ?_
  have hPc := hP.sub (ws' := []) [] rfl
  have hDc := hD.sub (ws' := []) [] (by decide) rfl
  refine xk_p (va_runS (As := [.int a2, .int 0, .int 2]) (rest := []) ⟨hx, hb, hml, hown, hts⟩ (c_U_within l dC dI Z A _ M a2 0 2) (va_cwS 3 hts (xw_S _ tw_534 tw_326 tw_1 tw_327) rfl rfl rfl (by decide +kernel) ⟨Nat.le_of_ble_eq_true rfl, Nat.le_of_ble_eq_true rfl⟩) ⟨xB_blind, fun U hU hW => ⟨rfl, xB_at hPc hK hDc hq U hU hW⟩⟩ rfl rfl hl.1 rfl (lv_room (Nat.le_of_ble_eq_true rfl)) d_U_record_3 ⟨Nat.le_of_ble_eq_true rfl, Nat.le_of_ble_eq_true rfl⟩) ?_
  refine lv_topi (fun z1 hz1 => ?_)
  refine lv_if_ne (tgt := 19) hx hb d_U_record_6 rfl (fun h2 => ?_) (fun h2 => ?_)
  · refine lv_iload_n hx hb d_U_record_19 rfl (lv_at hl 1 rfl) ?_
    refine lv_iconst (v := (-1)) hx hb d_U_record_20 (by decide) ?_
    refine lv_icmp_ne (tgt := 33) hx hb d_U_record_21 rfl (fun h3 => ?_) (fun h3 => ?_)
    · refine lv_aload_n hx hb d_U_record_33 rfl (lv_at hl 0 rfl) ?_
      refine va_get (D := (dC, dI)) (ci := 9) (v := .ref (A 13)) (C := "CentrifugeUnit") (T := xF9) (N := 7) hx hb htt xin9 hown hK hP 0 rfl rfl 5 (by decide) (htt _ tw_288) (fun _ h9 => h9) rfl d_U_record_34 ?_
      refine lv_iload_n hx hb d_U_record_37 rfl (lv_at hl 1 rfl) ?_
      have hPc := hP.sub (ws' := [(A 13, xc13 Z A M)]) [1] rfl
      have hDc := hD.sub (ws' := [(A 13, xc13 Z A M)]) [1] (by decide) rfl
      refine xk_p (va_runV (As := [.int a1]) (rest := []) ⟨hx, hb, hml, hown, hts⟩ (c_Records_keeps l dC dI Z A _ M a1) (cwV 1 hts (xw_V _ tw_749 tw_750 tw_751 tw_8 tw_752) rfl rfl rfl (by decide +kernel) ⟨Nat.le_of_ble_eq_true rfl, Nat.le_of_ble_eq_true rfl⟩) ⟨xB_blind, va_recv (q0 := 1) (ci := 4) hK hP rfl rfl, fun U hU hW => ⟨rfl, xB_at hPc hK hDc hq U hU hW⟩⟩ rfl rfl hl.1 rfl (lv_room (Nat.le_of_ble_eq_true rfl)) d_U_record_38 ⟨Nat.le_of_ble_eq_true rfl, Nat.le_of_ble_eq_true rfl⟩) ?_
      refine lv_topi (fun z4 hz4 => ?_)
      refine lv_if_ne (tgt := 55) hx hb d_U_record_41 rfl (fun h5 => ?_) (fun h5 => ?_)
      · exact absurd hT (by rw [T_U_record, ← hz1, T_U_record_k1, if_neg h2, if_neg h3, ← hz4, T_U_record_k2, if_neg h5]; exact (by decide : ¬ (0 : Nat) = 3))
      · obtain ⟨q9, hZ⟩ := hq.2.1 ("CentrifugeUnit", 263, "no record that is kept") (by decide +kernel)
        exact xt_throwW (names := ["java/lang/RuntimeException", "java/lang/Exception"]) hx hb htl hown (htt _ tw_753) (htt _ tw_754) (htt _ tw_19) hZ (xo_all htt hq hs xo_3_265) (by decide) (by decide) d_U_record_44 d_U_record_47 d_U_record_48 d_U_record_51 d_U_record_54 (B.noHandlers (hts _ List.mem_cons_self)) (hl.1.trans hml.symm) hlocks (by decide) (by decide) (by decide) (by decide)
    · exact absurd hT (by rw [T_U_record, ← hz1, T_U_record_k1, if_neg h2, if_pos h3]; exact (by decide : ¬ (0 : Nat) = 3))
  · exact absurd hT (by rw [T_U_record, ← hz1, T_U_record_k1, if_pos h2]; exact (by decide : ¬ (1 : Nat) = 3))
theorem d_U_record_24 : decode bc_U_record 24 = .ok (.aload_n 0, 1) := by decide +kernel
theorem d_U_record_25 : decode bc_U_record 25 = .ok (.getfield 47, 3) := by decide +kernel
theorem d_U_record_28 : decode bc_U_record 28 = .ok (.getfield 255, 3) := by decide +kernel
theorem d_U_record_31 : decode bc_U_record 31 = .ok (.i2l, 1) := by decide +kernel
theorem d_U_record_32 : decode bc_U_record 32 = .ok (.lreturn, 1) := by decide +kernel
theorem d_U_record_55 : decode bc_U_record 55 = .ok (.aload_n 0, 1) := by decide +kernel
theorem d_U_record_56 : decode bc_U_record 56 = .ok (.getfield 47, 3) := by decide +kernel
theorem d_U_record_59 : decode bc_U_record 59 = .ok (.iload_n 1, 1) := by decide +kernel
theorem d_U_record_60 : decode bc_U_record 60 = .ok (.iload_n 2, 1) := by decide +kernel
theorem d_U_record_61 : decode bc_U_record 61 = .ok (.invokevirtual 266, 3) := by decide +kernel
theorem d_U_record_64 : decode bc_U_record 64 = .ok (.lreturn, 1) := by decide +kernel
def F_U_record_k3 (M : XM) (a1 : Int32) (a2 : Int32) (z1 : Int32) (z4 : Int32) (z6 : Int64) : Int64 := z6
def F_U_record_k2 (M : XM) (a1 : Int32) (a2 : Int32) (z1 : Int32) (z4 : Int32) : Int64 := (if z4 = 0 then 0 else (F_U_record_k3 M a1 a2 z1 z4 (F_Records_entry M a1 a2)))
def F_U_record_k1 (M : XM) (a1 : Int32) (a2 : Int32) (z1 : Int32) : Int64 := (if z1 = 0 then 0 else (if a1 = (-1) then ((M.1 11)).toInt64 else (F_U_record_k2 M a1 a2 z1 (F_Records_keeps M a1))))
def F_U_record (M : XM) (a1 : Int32) (a2 : Int32) : Int64 := (F_U_record_k1 M a1 a2 (F_U_within M a2 0 2))
set_option maxHeartbeats 4000000 in
set_option maxRecDepth 100000 in
theorem c_U_record (l : Launch) (dC : Nat → ClassId) (dI : Nat → Nat → Nat) (Z : Nat → ClassId) (A : Nat → Nat) (sz : Nat) (M : XM) (a1 : Int32) (a2 : Int32) (hT : T_U_record M a1 a2 = 0) : Met l y_U_record (.code y_U_record bc_U_record 3 (some .long) :: xw) ({ frames := 2, cells := 0, slots := 0, locals := 45 }) (va_Pc [.ref (A 0), .int a1, .int a2] (xB (dC, dI) xcl (xty Z) sz [(A 0, xc0 Z A M), (A 13, xc13 Z A M), (A 14, xc14 Z A M), (A 15, xc15 Z A M), (A 16, xc16 Z A M)])) (k2_QcV (.long (F_U_record M a1 a2))) 0 0 (fun _ => False) := by
  refine Met.ofW (cc := bc_U_record) (maxL := 3) (ret := (some .long)) (by decide) rfl ?_
  intro p e s m args below meth c s₁ B hml hv
  obtain ⟨rfl, hsz, hP, hK, hD0, hq⟩ := hv
  have hx := B.exec
  have hb := B.bytes
  have hr := B.returns
  have hts := atoms_spec (ws := (.code y_U_record bc_U_record 3 (some .long) :: xw)) B.pre
  have htt : ∀ w ∈ xw, w.before _ s = true := fun w h => hts w (List.mem_cons_of_mem _ h)
  have hown : s.vm.findClass "CentrifugeUnit" = some m.cls := findClass_of_methodNamed B.named
  have hlocks := B.notSynchronized
  subst hsz
  have hD : va_D (fun _ => True) [(A 0, .inr (9, [.ref (A 1), .ref (A 6), .ref (A 10), .ref (A 11), .ref (A 12), .ref (A 13), .ref (A 17)])), (A 13, .inr (4, [.ref (A 14), .ref (A 15), .ref (A 16), .int (M.1 11)])), (A 14, .inl (Z 0, 16, .inl (M.2.2.1 14))), (A 15, .inl (Z 1, 16, .inr (.inl (M.2.2.2 15)))), (A 16, .inl (Z 0, 16, .inl (M.2.2.1 16)))] := hD0
  have hP : va_P (dC, dI) xcl [(A 0, .inr (9, [.ref (A 1), .ref (A 6), .ref (A 10), .ref (A 11), .ref (A 12), .ref (A 13), .ref (A 17)])), (A 13, .inr (4, [.ref (A 14), .ref (A 15), .ref (A 16), .int (M.1 11)])), (A 14, .inl (Z 0, 16, .inl (M.2.2.1 14))), (A 15, .inl (Z 1, 16, .inr (.inl (M.2.2.2 15)))), (A 16, .inl (Z 0, 16, .inl (M.2.2.1 16)))] s.heap := hP
  have hl := lv_entry ([.ref (A 0), .int a1, .int a2]) (n := 3) (Nat.le_of_ble_eq_true rfl)
  rw [lg_entry_eq]
  generalize (lg_sl ([.ref (A 0), .int a1, .int a2]) ++ List.replicate (3 - (lg_sl ([.ref (A 0), .int a1, .int a2])).length) Slot.unset).toArray = ls at hl ⊢
  have hl : lv_has ls 3 [(0, .ref (A 0)), (1, .int a1), (2, .int a2)] := hl
  refine lv_iload_n hx hb d_U_record_0 rfl (lv_at hl 2 rfl) ?_
  refine lv_iconst (v := 0) hx hb d_U_record_1 (by decide) ?_
  refine lv_iconst (v := 2) hx hb d_U_record_2 (by decide) ?_
  have hPc := hP.sub (ws' := []) [] rfl
  have hDc := hD.sub (ws' := []) [] (by decide) rfl
  refine xk_p (va_runS (As := [.int a2, .int 0, .int 2]) (rest := []) ⟨hx, hb, hml, hown, hts⟩ (c_U_within l dC dI Z A _ M a2 0 2) (va_cwS 3 hts (xw_S _ tw_534 tw_326 tw_1 tw_327) rfl rfl rfl (by decide +kernel) ⟨Nat.le_of_ble_eq_true rfl, Nat.le_of_ble_eq_true rfl⟩) ⟨xB_blind, fun U hU hW => ⟨rfl, xB_at hPc hK hDc hq U hU hW⟩⟩ rfl rfl hl.1 rfl (lv_room (Nat.le_of_ble_eq_true rfl)) d_U_record_3 ⟨Nat.le_of_ble_eq_true rfl, Nat.le_of_ble_eq_true rfl⟩) ?_
  refine lv_topi (fun z1 hz1 => ?_)
  refine lv_if_ne (tgt := 19) hx hb d_U_record_6 rfl (fun h2 => ?_) (fun h2 => ?_)
  · refine lv_iload_n hx hb d_U_record_19 rfl (lv_at hl 1 rfl) ?_
    refine lv_iconst (v := (-1)) hx hb d_U_record_20 (by decide) ?_
    refine lv_icmp_ne (tgt := 33) hx hb d_U_record_21 rfl (fun h3 => ?_) (fun h3 => ?_)
    · refine lv_aload_n hx hb d_U_record_33 rfl (lv_at hl 0 rfl) ?_
      refine va_get (D := (dC, dI)) (ci := 9) (v := .ref (A 13)) (C := "CentrifugeUnit") (T := xF9) (N := 7) hx hb htt xin9 hown hK hP 0 rfl rfl 5 (by decide) (htt _ tw_288) (fun _ h9 => h9) rfl d_U_record_34 ?_
      refine lv_iload_n hx hb d_U_record_37 rfl (lv_at hl 1 rfl) ?_
      have hPc := hP.sub (ws' := [(A 13, xc13 Z A M)]) [1] rfl
      have hDc := hD.sub (ws' := [(A 13, xc13 Z A M)]) [1] (by decide) rfl
      refine xk_p (va_runV (As := [.int a1]) (rest := []) ⟨hx, hb, hml, hown, hts⟩ (c_Records_keeps l dC dI Z A _ M a1) (cwV 1 hts (xw_V _ tw_749 tw_750 tw_751 tw_8 tw_752) rfl rfl rfl (by decide +kernel) ⟨Nat.le_of_ble_eq_true rfl, Nat.le_of_ble_eq_true rfl⟩) ⟨xB_blind, va_recv (q0 := 1) (ci := 4) hK hP rfl rfl, fun U hU hW => ⟨rfl, xB_at hPc hK hDc hq U hU hW⟩⟩ rfl rfl hl.1 rfl (lv_room (Nat.le_of_ble_eq_true rfl)) d_U_record_38 ⟨Nat.le_of_ble_eq_true rfl, Nat.le_of_ble_eq_true rfl⟩) ?_
      refine lv_topi (fun z4 hz4 => ?_)
      refine lv_if_ne (tgt := 55) hx hb d_U_record_41 rfl (fun h5 => ?_) (fun h5 => ?_)
      · refine lv_aload_n hx hb d_U_record_55 rfl (lv_at hl 0 rfl) ?_
        refine va_get (D := (dC, dI)) (ci := 9) (v := .ref (A 13)) (C := "CentrifugeUnit") (T := xF9) (N := 7) hx hb htt xin9 hown hK hP 0 rfl rfl 5 (by decide) (htt _ tw_288) (fun _ h9 => h9) rfl d_U_record_56 ?_
        refine lv_iload_n hx hb d_U_record_59 rfl (lv_at hl 1 rfl) ?_
        refine lv_iload_n hx hb d_U_record_60 rfl (lv_at hl 2 rfl) ?_
        have hPc := hP.sub (ws' := [(A 13, xc13 Z A M), (A 14, xc14 Z A M), (A 15, xc15 Z A M), (A 16, xc16 Z A M)]) [1, 2, 3, 4] rfl
        have hDc := hD.sub (ws' := [(A 13, xc13 Z A M), (A 14, xc14 Z A M), (A 15, xc15 Z A M), (A 16, xc16 Z A M)]) [1, 2, 3, 4] (by decide) rfl
        refine xk_p (va_runV (As := [.int a1, .int a2]) (rest := []) ⟨hx, hb, hml, hown, hts⟩ (c_Records_entry l dC dI Z A _ M a1 a2) (cwV 2 hts (xw_V _ tw_769 tw_770 tw_771 tw_8 tw_772) rfl rfl rfl (by decide +kernel) ⟨Nat.le_of_ble_eq_true rfl, Nat.le_of_ble_eq_true rfl⟩) ⟨xB_blind, va_recv (q0 := 1) (ci := 4) hK hP rfl rfl, fun U hU hW => ⟨rfl, xB_at hPc hK hDc hq U hU hW⟩⟩ rfl rfl hl.1 rfl (lv_room (Nat.le_of_ble_eq_true rfl)) d_U_record_61 ⟨Nat.le_of_ble_eq_true rfl, Nat.le_of_ble_eq_true rfl⟩) ?_
        refine lv_topl (fun z6 hz6 => ?_)
        exact W.lret hx hb hr (fun t ht hW => ⟨(by rw [F_U_record, ← hz1, F_U_record_k1, if_neg h2, if_neg h3, ← hz4, F_U_record_k2, if_neg h5, ← hz6, F_U_record_k3]), ht⟩) (fun _ h => absurd h List.not_mem_nil) d_U_record_64
      · exact absurd hT (by rw [T_U_record, ← hz1, T_U_record_k1, if_neg h2, if_neg h3, ← hz4, T_U_record_k2, if_pos h5]; exact (by decide : ¬ (3 : Nat) = 0))
    · refine lv_aload_n hx hb d_U_record_24 rfl (lv_at hl 0 rfl) ?_
      refine va_get (D := (dC, dI)) (ci := 9) (v := .ref (A 13)) (C := "CentrifugeUnit") (T := xF9) (N := 7) hx hb htt xin9 hown hK hP 0 rfl rfl 5 (by decide) (htt _ tw_288) (fun _ h9 => h9) rfl d_U_record_25 ?_
      refine va_get (D := (dC, dI)) (ci := 4) (v := .int (M.1 11)) (C := "CentrifugeUnit$Records") (T := xF4) (N := 4) hx hb htt xin4 hown hK hP 1 rfl rfl 3 (by decide) (htt _ tw_151) (fun _ h9 => h9) rfl d_U_record_28 ?_
      refine lv_i2l (v := ((M.1 11)).toInt64) hx hb d_U_record_31 rfl ?_
      exact W.lret hx hb hr (fun t ht hW => ⟨(by rw [F_U_record, ← hz1, F_U_record_k1, if_neg h2, if_pos h3]), ht⟩) (fun _ h => absurd h List.not_mem_nil) d_U_record_32
  · exact absurd hT (by rw [T_U_record, ← hz1, T_U_record_k1, if_pos h2]; exact (by decide : ¬ (1 : Nat) = 0))
