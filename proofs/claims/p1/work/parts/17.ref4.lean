set_option maxRecDepth 20000 in
theorem tw_784 : Cond.fieldLink "CentrifugeUnitModel" 23 "CentrifugeUnitModel" "inertia" "[I" ∈ xw := xw_of (List.mem_append_right _ (List.mem_of_getElem? (i := 784) (by decide +kernel))) rfl
set_option maxRecDepth 20000 in
theorem tw_933 : Cond.constantLong "CentrifugeUnitModel" 93 (1000 : Int64) ∈ xw := xw_of (List.mem_append_right _ (List.mem_of_getElem? (i := 933) (by decide +kernel))) rfl
set_option maxRecDepth 20000 in
theorem tw_1002 : Cond.constantLong "CentrifugeUnitModel" 240 (2000 : Int64) ∈ xw := xw_of (List.mem_append_right _ (List.mem_of_getElem? (i := 1002) (by decide +kernel))) rfl
abbrev bc_R_move : ByteArray := prog_12_method_26_code
def y_R_move : MethodName := ⟨"CentrifugeUnitModel", "move", "()V"⟩
theorem d_R_move_0 : decode bc_R_move 0 = .ok (.aload_n 0, 1) := by decide +kernel
theorem d_R_move_1 : decode bc_R_move 1 = .ok (.getfield 26, 3) := by decide +kernel
theorem d_R_move_4 : decode bc_R_move 4 = .ok (.ifCond .lt 27, 3) := by decide +kernel
theorem d_R_move_7 : decode bc_R_move 7 = .ok (.aload_n 0, 1) := by decide +kernel
theorem d_R_move_8 : decode bc_R_move 8 = .ok (.getfield 7, 3) := by decide +kernel
theorem d_R_move_11 : decode bc_R_move 11 = .ok (.aload_n 0, 1) := by decide +kernel
theorem d_R_move_12 : decode bc_R_move 12 = .ok (.getfield 26, 3) := by decide +kernel
theorem d_R_move_15 : decode bc_R_move 15 = .ok (.baload, 1) := by decide +kernel
theorem d_R_move_16 : decode bc_R_move 16 = .ok (.ifCond .eq 15, 3) := by decide +kernel
theorem d_R_move_19 : decode bc_R_move 19 = .ok (.aload_n 0, 1) := by decide +kernel
theorem d_R_move_20 : decode bc_R_move 20 = .ok (.getfield 23, 3) := by decide +kernel
theorem d_R_move_23 : decode bc_R_move 23 = .ok (.aload_n 0, 1) := by decide +kernel
theorem d_R_move_24 : decode bc_R_move 24 = .ok (.getfield 26, 3) := by decide +kernel
theorem d_R_move_27 : decode bc_R_move 27 = .ok (.iaload, 1) := by decide +kernel
theorem d_R_move_28 : decode bc_R_move 28 = .ok (.goto 5, 3) := by decide +kernel
theorem d_R_move_31 : decode bc_R_move 31 = .ok (.bipush 100, 2) := by decide +kernel
theorem d_R_move_33 : decode bc_R_move 33 = .ok (.istore_n 1, 1) := by decide +kernel
theorem d_R_move_34 : decode bc_R_move 34 = .ok (.aload_n 0, 1) := by decide +kernel
theorem d_R_move_35 : decode bc_R_move 35 = .ok (.dup, 1) := by decide +kernel
theorem d_R_move_36 : decode bc_R_move 36 = .ok (.getfield 180, 3) := by decide +kernel
theorem d_R_move_39 : decode bc_R_move 39 = .ok (.ldc2_w 93, 3) := by decide +kernel
theorem d_R_move_42 : decode bc_R_move 42 = .ok (.aload_n 0, 1) := by decide +kernel
theorem d_R_move_43 : decode bc_R_move 43 = .ok (.getfield 171, 3) := by decide +kernel
theorem d_R_move_46 : decode bc_R_move 46 = .ok (.i2l, 1) := by decide +kernel
theorem d_R_move_47 : decode bc_R_move 47 = .ok (.lmul, 1) := by decide +kernel
theorem d_R_move_48 : decode bc_R_move 48 = .ok (.iload_n 1, 1) := by decide +kernel
theorem d_R_move_49 : decode bc_R_move 49 = .ok (.i2l, 1) := by decide +kernel
theorem d_R_move_50 : decode bc_R_move 50 = .ok (.ldiv, 1) := by decide +kernel
theorem d_R_move_51 : decode bc_R_move 51 = .ok (.ladd, 1) := by decide +kernel
theorem d_R_move_52 : decode bc_R_move 52 = .ok (.putfield 180, 3) := by decide +kernel
theorem d_R_move_55 : decode bc_R_move 55 = .ok (.aload_n 0, 1) := by decide +kernel
theorem d_R_move_56 : decode bc_R_move 56 = .ok (.dup, 1) := by decide +kernel
theorem d_R_move_57 : decode bc_R_move 57 = .ok (.getfield 180, 3) := by decide +kernel
theorem d_R_move_60 : decode bc_R_move 60 = .ok (.aload_n 0, 1) := by decide +kernel
theorem d_R_move_61 : decode bc_R_move 61 = .ok (.getfield 180, 3) := by decide +kernel
theorem d_R_move_64 : decode bc_R_move 64 = .ok (.ldc2_w 240, 3) := by decide +kernel
theorem d_R_move_67 : decode bc_R_move 67 = .ok (.ldiv, 1) := by decide +kernel
theorem d_R_move_68 : decode bc_R_move 68 = .ok (.ldc2_w 198, 3) := by decide +kernel
theorem d_R_move_71 : decode bc_R_move 71 = .ok (.ladd, 1) := by decide +kernel
theorem d_R_move_72 : decode bc_R_move 72 = .ok (.ldc2_w 163, 3) := by decide +kernel
theorem d_R_move_75 : decode bc_R_move 75 = .ok (.aload_n 0, 1) := by decide +kernel
theorem d_R_move_76 : decode bc_R_move 76 = .ok (.getfield 174, 3) := by decide +kernel
theorem d_R_move_79 : decode bc_R_move 79 = .ok (.i2l, 1) := by decide +kernel
theorem d_R_move_80 : decode bc_R_move 80 = .ok (.lmul, 1) := by decide +kernel
theorem d_R_move_81 : decode bc_R_move 81 = .ok (.iload_n 1, 1) := by decide +kernel
theorem d_R_move_82 : decode bc_R_move 82 = .ok (.i2l, 1) := by decide +kernel
theorem d_R_move_83 : decode bc_R_move 83 = .ok (.ldiv, 1) := by decide +kernel
theorem d_R_move_84 : decode bc_R_move 84 = .ok (.ladd, 1) := by decide +kernel
theorem d_R_move_85 : decode bc_R_move 85 = .ok (.lsub, 1) := by decide +kernel
theorem d_R_move_86 : decode bc_R_move 86 = .ok (.putfield 180, 3) := by decide +kernel
theorem d_R_move_89 : decode bc_R_move 89 = .ok (.aload_n 0, 1) := by decide +kernel
theorem d_R_move_90 : decode bc_R_move 90 = .ok (.aload_n 0, 1) := by decide +kernel
theorem d_R_move_91 : decode bc_R_move 91 = .ok (.getfield 180, 3) := by decide +kernel
theorem d_R_move_94 : decode bc_R_move 94 = .ok (.lconst 0, 1) := by decide +kernel
theorem d_R_move_95 : decode bc_R_move 95 = .ok (.lcmp, 1) := by decide +kernel
theorem d_R_move_96 : decode bc_R_move 96 = .ok (.ifCond .ge 7, 3) := by decide +kernel
theorem d_R_move_99 : decode bc_R_move 99 = .ok (.lconst 0, 1) := by decide +kernel
theorem d_R_move_100 : decode bc_R_move 100 = .ok (.goto 7, 3) := by decide +kernel
theorem d_R_move_103 : decode bc_R_move 103 = .ok (.aload_n 0, 1) := by decide +kernel
theorem d_R_move_104 : decode bc_R_move 104 = .ok (.getfield 180, 3) := by decide +kernel
theorem d_R_move_107 : decode bc_R_move 107 = .ok (.putfield 180, 3) := by decide +kernel
theorem d_R_move_110 : decode bc_R_move 110 = .ok (.return_, 1) := by decide +kernel
abbrev ap_R_move (M : XM) (u : Int64) : XM := (M.1, (va_up M.2.1 100 u), M.2.2)
def F_R_move_k4 (M : XM) (j1 : Int32) (j3 : Int64) : (Int64) := j3
def F_R_move_j3 (M : XM) (j1 : Int32) : Int64 := (if 0 ≤ (lg_cmp (((M.2.1 100) + ((1000 * ((M.1 103)).toInt64) / (j1).toInt64)) - (((((M.2.1 100) + ((1000 * ((M.1 103)).toInt64) / (j1).toInt64)) / 2000) + 200) + ((10000 * ((M.1 104)).toInt64) / (j1).toInt64))) 0) then (((M.2.1 100) + ((1000 * ((M.1 103)).toInt64) / (j1).toInt64)) - (((((M.2.1 100) + ((1000 * ((M.1 103)).toInt64) / (j1).toInt64)) / 2000) + 200) + ((10000 * ((M.1 104)).toInt64) / (j1).toInt64))) else 0)
def F_R_move_k2 (M : XM) (j1 : Int32) : (Int64) := (F_R_move_k4 M j1 (F_R_move_j3 M j1))
def F_R_move_j1 (M : XM) : Int32 := (if (M.1 101) < 0 then 100 else (if ((M.2.2.1 21) ((M.1 101)).toNatClampNeg) = 0 then 100 else ((M.2.2.1 25) ((M.1 101)).toNatClampNeg)))
def F_R_move (M : XM) : (Int64) := (F_R_move_k2 M (F_R_move_j1 M))
set_option maxHeartbeats 4000000 in
set_option maxRecDepth 100000 in
theorem c_R_move (l : Launch) (dC : Nat → ClassId) (dI : Nat → Nat → Nat) (Z : Nat → ClassId) (A : Nat → Nat) (sz : Nat) (M : XM) (hin : (M.1 101) < 4) (hmv : ¬ (M.1 101) < 0 → ¬ ((M.2.2.1 21) ((M.1 101)).toNatClampNeg) = 0 → ¬ ((M.2.2.1 25) ((M.1 101)).toNatClampNeg) = 0) : Met l y_R_move (.code y_R_move bc_R_move 2 none :: xw) ({ frames := 0, cells := 0, slots := 0, locals := 0 }) (va_Pc [.ref (A 20)] (xB (dC, dI) xcl (xty Z) sz [(A 20, xc20 Z A M), (A 21, xc21 Z A M), (A 25, xc25 Z A M)])) (va_Qv (fun u : Int64 => u = F_R_move M) (fun u => xE (dC, dI) xcl (xty Z) (va_A [(A 20, xc20 Z A M), (A 21, xc21 Z A M), (A 25, xc25 Z A M)] sz) [(A 20, xc20 Z A (ap_R_move M u)), (A 21, xc21 Z A (ap_R_move M u)), (A 25, xc25 Z A (ap_R_move M u))]) (va_A [(A 20, xc20 Z A M), (A 21, xc21 Z A M), (A 25, xc25 Z A M)] sz)) 0 0 (va_A [(A 20, xc20 Z A M), (A 21, xc21 Z A M), (A 25, xc25 Z A M)] sz) := by
  refine Met.ofW (cc := bc_R_move) (maxL := 2) (ret := none) (by decide) rfl ?_
  intro p e s m args below meth c s₁ B hml hv
  obtain ⟨rfl, hsz, hP, hK, hD0, hq⟩ := hv
  have hx := B.exec
  have hb := B.bytes
  have hr := B.returns
  have hts := atoms_spec (ws := (.code y_R_move bc_R_move 2 none :: xw)) B.pre
  have htt : ∀ w ∈ xw, w.before _ s = true := fun w h => hts w (List.mem_cons_of_mem _ h)
  have hown : s.vm.findClass "CentrifugeUnitModel" = some m.cls := findClass_of_methodNamed B.named
  have hlocks := B.notSynchronized
  subst hsz
  have hD := hD0.self (sz := s.heap.size)
  generalize hAe : va_A [(A 20, xc20 Z A M), (A 21, xc21 Z A M), (A 25, xc25 Z A M)] s.heap.size = AA at hD ⊢
  have hA : ∀ q : Nat, s.heap.size ≤ q → AA q := fun q h => by rw [← hAe]; exact Or.inr h
  have hS : va_S AA s.heap s.heap [] := va_S.rf
  have hP : va_P (dC, dI) xcl [(A 20, .inr (10, [.int (M.1 100), .ref (A 21), .ref (A 22), .ref (A 23), .ref (A 24), .ref (A 25), .int (M.1 101), .ref (A 26), .ref (A 27), .ref (A 28), .int (M.1 102), .long (M.2.1 100), .int (M.1 103), .int (M.1 104), .int (M.1 105), .int (M.1 106), .int (M.1 107), .int (M.1 108), .long (M.2.1 101), .long (M.2.1 102), .long (M.2.1 103), .int (M.1 109), .int (M.1 110), .int (M.1 111), .int (M.1 112), .int (M.1 113), .long (M.2.1 104), .long (M.2.1 105), .long (M.2.1 106), .int (M.1 114), .int (M.1 115), .int (M.1 116), .int (M.1 117), .int (M.1 118), .int (M.1 119), .int (M.1 120), .int (M.1 121), .int (M.1 122), .int (M.1 123), .int (M.1 124), .long (M.2.1 107), .int (M.1 125), .ref (A 29), .ref (A 30), .ref (A 31)])), (A 21, .inl (Z 2, 4, .inl (M.2.2.1 21))), (A 25, .inl (Z 0, 4, .inl (M.2.2.1 25)))] s.heap := hP
  have hD : va_D AA [(A 20, .inr (10, [.int (M.1 100), .ref (A 21), .ref (A 22), .ref (A 23), .ref (A 24), .ref (A 25), .int (M.1 101), .ref (A 26), .ref (A 27), .ref (A 28), .int (M.1 102), .long (M.2.1 100), .int (M.1 103), .int (M.1 104), .int (M.1 105), .int (M.1 106), .int (M.1 107), .int (M.1 108), .long (M.2.1 101), .long (M.2.1 102), .long (M.2.1 103), .int (M.1 109), .int (M.1 110), .int (M.1 111), .int (M.1 112), .int (M.1 113), .long (M.2.1 104), .long (M.2.1 105), .long (M.2.1 106), .int (M.1 114), .int (M.1 115), .int (M.1 116), .int (M.1 117), .int (M.1 118), .int (M.1 119), .int (M.1 120), .int (M.1 121), .int (M.1 122), .int (M.1 123), .int (M.1 124), .long (M.2.1 107), .int (M.1 125), .ref (A 29), .ref (A 30), .ref (A 31)])), (A 21, .inl (Z 2, 4, .inl (M.2.2.1 21))), (A 25, .inl (Z 0, 4, .inl (M.2.2.1 25)))] := hD
  have hl := lv_entry ([.ref (A 20)]) (n := 2) (Nat.le_of_ble_eq_true rfl)
  rw [lg_entry_eq]
  generalize (lg_sl ([.ref (A 20)]) ++ List.replicate (2 - (lg_sl ([.ref (A 20)])).length) Slot.unset).toArray = ls at hl ⊢
  have hl : lv_has ls 2 [(0, .ref (A 20))] := hl
  refine lv_aload_n hx hb d_R_move_0 rfl (lv_at hl 0 rfl) ?_
  refine va_get (D := (dC, dI)) (ci := 10) (v := .int (M.1 101)) (C := "CentrifugeUnitModel") (T := xF10) (N := 45) hx hb htt xin10 hown hK hP 0 rfl rfl 6 (by decide) (htt _ tw_785) (fun _ h9 => h9) rfl d_R_move_1 ?_
  refine xj_p 2 33 (fun q9 : Int32 => [(0, .ref (A 20))]) (fun q9 : Int32 => [.int q9]) (fun q9 : Int32 => q9 = F_R_move_j1 M) (fun hJ2 => ?_) (fun ls j1 hl hj1 => ?_)
  · refine lv_if_lt (tgt := 31) hx hb d_R_move_4 rfl (fun h6 => ?_) (fun h6 => ?_)
    · refine lv_bipush (v := 100) hx hb d_R_move_31 (by decide) ?_
      exact hJ2 _ 100 (lv_sub hl [0] rfl) (by rw [F_R_move_j1, if_pos h6])
    · refine lv_aload_n hx hb d_R_move_7 rfl (lv_at hl 0 rfl) ?_
      refine va_get (D := (dC, dI)) (ci := 10) (v := .ref (A 21)) (C := "CentrifugeUnitModel") (T := xF10) (N := 45) hx hb htt xin10 hown hK hP 0 rfl rfl 1 (by decide) (htt _ tw_780) (fun _ h9 => h9) rfl d_R_move_8 ?_
      refine lv_aload_n hx hb d_R_move_11 rfl (lv_at hl 0 rfl) ?_
      refine va_get (D := (dC, dI)) (ci := 10) (v := .int (M.1 101)) (C := "CentrifugeUnitModel") (T := xF10) (N := 45) hx hb htt xin10 hown hK hP 0 rfl rfl 6 (by decide) (htt _ tw_785) (fun _ h9 => h9) rfl d_R_move_12 ?_
      refine va_zald (D := (dC, dI)) hx hb hK hP 1 2 rfl rfl (xlt4 h6 hin) d_R_move_15 ?_
      refine lv_if_eq (tgt := 31) hx hb d_R_move_16 rfl (fun h7 => ?_) (fun h7 => ?_)
      · refine lv_bipush (v := 100) hx hb d_R_move_31 (by decide) ?_
        exact hJ2 _ 100 (lv_sub hl [0] rfl) (by rw [F_R_move_j1, if_neg h6, if_pos h7])
      · refine lv_aload_n hx hb d_R_move_19 rfl (lv_at hl 0 rfl) ?_
        refine va_get (D := (dC, dI)) (ci := 10) (v := .ref (A 25)) (C := "CentrifugeUnitModel") (T := xF10) (N := 45) hx hb htt xin10 hown hK hP 0 rfl rfl 5 (by decide) (htt _ tw_784) (fun _ h9 => h9) rfl d_R_move_20 ?_
        refine lv_aload_n hx hb d_R_move_23 rfl (lv_at hl 0 rfl) ?_
        refine va_get (D := (dC, dI)) (ci := 10) (v := .int (M.1 101)) (C := "CentrifugeUnitModel") (T := xF10) (N := 45) hx hb htt xin10 hown hK hP 0 rfl rfl 6 (by decide) (htt _ tw_785) (fun _ h9 => h9) rfl d_R_move_24 ?_
        refine va_iald (D := (dC, dI)) hx hb hK hP 2 0 rfl rfl (xlt4 h6 hin) d_R_move_27 ?_
        refine lv_goto (tgt := 33) hx hb d_R_move_28 rfl ?_
        exact hJ2 _ ((M.2.2.1 25) ((M.1 101)).toNatClampNeg) (lv_sub hl [0] rfl) (by rw [F_R_move_j1, if_neg h6, if_neg h7])
  · refine lv_istore_n (lv' := [(1, .int j1), (0, .ref (A 20))]) hx hb d_R_move_33 rfl hl (by decide) rfl (fun ls hl => ?_)
    refine lv_aload_n hx hb d_R_move_34 rfl (lv_at hl 1 rfl) ?_
    refine lv_dup hx hb d_R_move_35 rfl ?_
    refine va_get (D := (dC, dI)) (ci := 10) (v := .long (M.2.1 100)) (C := "CentrifugeUnitModel") (T := xF10) (N := 45) hx hb htt xin10 hown hK hP 0 rfl rfl 11 (by decide) (htt _ tw_790) (fun _ h9 => h9) rfl d_R_move_36 ?_
    refine lv_ldc2 (v := 1000) hx hb hown (htt _ tw_933) d_R_move_39 ?_
    refine lv_aload_n hx hb d_R_move_42 rfl (lv_at hl 1 rfl) ?_
    refine va_get (D := (dC, dI)) (ci := 10) (v := .int (M.1 103)) (C := "CentrifugeUnitModel") (T := xF10) (N := 45) hx hb htt xin10 hown hK hP 0 rfl rfl 12 (by decide) (htt _ tw_791) (fun _ h9 => h9) rfl d_R_move_43 ?_
    refine lv_i2l (v := ((M.1 103)).toInt64) hx hb d_R_move_46 rfl ?_
    refine lv_lmul hx hb d_R_move_47 ?_
    refine lv_iload_n hx hb d_R_move_48 rfl (lv_at hl 0 rfl) ?_
    refine lv_i2l (v := (j1).toInt64) hx hb d_R_move_49 rfl ?_
    refine lv_ldiv hx hb d_R_move_50 (xmvz (F_R_move_j1 M) HJ hmv rfl) ?_
    refine lv_ladd hx hb d_R_move_51 ?_
    refine va_put (D := (dC, dI)) (ci := 10) (v := .long ((M.2.1 100) + ((1000 * ((M.1 103)).toInt64) / (j1).toInt64))) (ty := .long) (C := "CentrifugeUnitModel") (T := xF10) (N := 45) hx hb htt xin10 xT10 xTo10 xNm10 hown hK hP hD hS 0 rfl rfl 11 (by decide) (htt _ tw_790) (fun _ h9 => h9) rfl (by decide +kernel) rfl rfl (Nat.le_of_ble_eq_true rfl) d_R_move_52 (fun H locs hP hD hS => ?_)
    have hP : va_P (dC, dI) xcl [(A 20, .inr (10, [.int (M.1 100), .ref (A 21), .ref (A 22), .ref (A 23), .ref (A 24), .ref (A 25), .int (M.1 101), .ref (A 26), .ref (A 27), .ref (A 28), .int (M.1 102), .long ((M.2.1 100) + ((1000 * ((M.1 103)).toInt64) / (j1).toInt64)), .int (M.1 103), .int (M.1 104), .int (M.1 105), .int (M.1 106), .int (M.1 107), .int (M.1 108), .long (M.2.1 101), .long (M.2.1 102), .long (M.2.1 103), .int (M.1 109), .int (M.1 110), .int (M.1 111), .int (M.1 112), .int (M.1 113), .long (M.2.1 104), .long (M.2.1 105), .long (M.2.1 106), .int (M.1 114), .int (M.1 115), .int (M.1 116), .int (M.1 117), .int (M.1 118), .int (M.1 119), .int (M.1 120), .int (M.1 121), .int (M.1 122), .int (M.1 123), .int (M.1 124), .long (M.2.1 107), .int (M.1 125), .ref (A 29), .ref (A 30), .ref (A 31)])), (A 21, .inl (Z 2, 4, .inl (M.2.2.1 21))), (A 25, .inl (Z 0, 4, .inl (M.2.2.1 25)))] H := hP
    have hD : va_D AA [(A 20, .inr (10, [.int (M.1 100), .ref (A 21), .ref (A 22), .ref (A 23), .ref (A 24), .ref (A 25), .int (M.1 101), .ref (A 26), .ref (A 27), .ref (A 28), .int (M.1 102), .long ((M.2.1 100) + ((1000 * ((M.1 103)).toInt64) / (j1).toInt64)), .int (M.1 103), .int (M.1 104), .int (M.1 105), .int (M.1 106), .int (M.1 107), .int (M.1 108), .long (M.2.1 101), .long (M.2.1 102), .long (M.2.1 103), .int (M.1 109), .int (M.1 110), .int (M.1 111), .int (M.1 112), .int (M.1 113), .long (M.2.1 104), .long (M.2.1 105), .long (M.2.1 106), .int (M.1 114), .int (M.1 115), .int (M.1 116), .int (M.1 117), .int (M.1 118), .int (M.1 119), .int (M.1 120), .int (M.1 121), .int (M.1 122), .int (M.1 123), .int (M.1 124), .long (M.2.1 107), .int (M.1 125), .ref (A 29), .ref (A 30), .ref (A 31)])), (A 21, .inl (Z 2, 4, .inl (M.2.2.1 21))), (A 25, .inl (Z 0, 4, .inl (M.2.2.1 25)))] := hD
    refine lv_aload_n hx hb d_R_move_55 rfl (lv_at hl 1 rfl) ?_
    refine lv_dup hx hb d_R_move_56 rfl ?_
    refine va_get (D := (dC, dI)) (ci := 10) (v := .long ((M.2.1 100) + ((1000 * ((M.1 103)).toInt64) / (j1).toInt64))) (C := "CentrifugeUnitModel") (T := xF10) (N := 45) hx hb htt xin10 hown hK hP 0 rfl rfl 11 (by decide) (htt _ tw_790) (fun _ h9 => h9) rfl d_R_move_57 ?_
    refine lv_aload_n hx hb d_R_move_60 rfl (lv_at hl 1 rfl) ?_
    refine va_get (D := (dC, dI)) (ci := 10) (v := .long ((M.2.1 100) + ((1000 * ((M.1 103)).toInt64) / (j1).toInt64))) (C := "CentrifugeUnitModel") (T := xF10) (N := 45) hx hb htt xin10 hown hK hP 0 rfl rfl 11 (by decide) (htt _ tw_790) (fun _ h9 => h9) rfl d_R_move_61 ?_
    refine lv_ldc2 (v := 2000) hx hb hown (htt _ tw_1002) d_R_move_64 ?_
    refine lv_ldiv hx hb d_R_move_67 (by decide) ?_
    refine lv_ldc2 (v := 200) hx hb hown (htt _ tw_1014) d_R_move_68 ?_
    refine lv_ladd hx hb d_R_move_71 ?_
    refine lv_ldc2 (v := 10000) hx hb hown (htt _ tw_989) d_R_move_72 ?_
    refine lv_aload_n hx hb d_R_move_75 rfl (lv_at hl 1 rfl) ?_
    refine va_get (D := (dC, dI)) (ci := 10) (v := .int (M.1 104)) (C := "CentrifugeUnitModel") (T := xF10) (N := 45) hx hb htt xin10 hown hK hP 0 rfl rfl 13 (by decide) (htt _ tw_792) (fun _ h9 => h9) rfl d_R_move_76 ?_
    refine lv_i2l (v := ((M.1 104)).toInt64) hx hb d_R_move_79 rfl ?_
    refine lv_lmul hx hb d_R_move_80 ?_
    refine lv_iload_n hx hb d_R_move_81 rfl (lv_at hl 0 rfl) ?_
    refine lv_i2l (v := (j1).toInt64) hx hb d_R_move_82 rfl ?_
    refine lv_ldiv hx hb d_R_move_83 (xmvz (F_R_move_j1 M) HJ hmv rfl) ?_
    refine lv_ladd hx hb d_R_move_84 ?_
    refine lv_lsub hx hb d_R_move_85 ?_
    refine va_put (D := (dC, dI)) (ci := 10) (v := .long (((M.2.1 100) + ((1000 * ((M.1 103)).toInt64) / (j1).toInt64)) - (((((M.2.1 100) + ((1000 * ((M.1 103)).toInt64) / (j1).toInt64)) / 2000) + 200) + ((10000 * ((M.1 104)).toInt64) / (j1).toInt64)))) (ty := .long) (C := "CentrifugeUnitModel") (T := xF10) (N := 45) hx hb htt xin10 xT10 xTo10 xNm10 hown hK hP hD hS 0 rfl rfl 11 (by decide) (htt _ tw_790) (fun _ h9 => h9) rfl (by decide +kernel) rfl rfl (Nat.le_of_ble_eq_true rfl) d_R_move_86 (fun H locs hP hD hS => ?_)
    have hP : va_P (dC, dI) xcl [(A 20, .inr (10, [.int (M.1 100), .ref (A 21), .ref (A 22), .ref (A 23), .ref (A 24), .ref (A 25), .int (M.1 101), .ref (A 26), .ref (A 27), .ref (A 28), .int (M.1 102), .long (((M.2.1 100) + ((1000 * ((M.1 103)).toInt64) / (j1).toInt64)) - (((((M.2.1 100) + ((1000 * ((M.1 103)).toInt64) / (j1).toInt64)) / 2000) + 200) + ((10000 * ((M.1 104)).toInt64) / (j1).toInt64))), .int (M.1 103), .int (M.1 104), .int (M.1 105), .int (M.1 106), .int (M.1 107), .int (M.1 108), .long (M.2.1 101), .long (M.2.1 102), .long (M.2.1 103), .int (M.1 109), .int (M.1 110), .int (M.1 111), .int (M.1 112), .int (M.1 113), .long (M.2.1 104), .long (M.2.1 105), .long (M.2.1 106), .int (M.1 114), .int (M.1 115), .int (M.1 116), .int (M.1 117), .int (M.1 118), .int (M.1 119), .int (M.1 120), .int (M.1 121), .int (M.1 122), .int (M.1 123), .int (M.1 124), .long (M.2.1 107), .int (M.1 125), .ref (A 29), .ref (A 30), .ref (A 31)])), (A 21, .inl (Z 2, 4, .inl (M.2.2.1 21))), (A 25, .inl (Z 0, 4, .inl (M.2.2.1 25)))] H := hP
    have hD : va_D AA [(A 20, .inr (10, [.int (M.1 100), .ref (A 21), .ref (A 22), .ref (A 23), .ref (A 24), .ref (A 25), .int (M.1 101), .ref (A 26), .ref (A 27), .ref (A 28), .int (M.1 102), .long (((M.2.1 100) + ((1000 * ((M.1 103)).toInt64) / (j1).toInt64)) - (((((M.2.1 100) + ((1000 * ((M.1 103)).toInt64) / (j1).toInt64)) / 2000) + 200) + ((10000 * ((M.1 104)).toInt64) / (j1).toInt64))), .int (M.1 103), .int (M.1 104), .int (M.1 105), .int (M.1 106), .int (M.1 107), .int (M.1 108), .long (M.2.1 101), .long (M.2.1 102), .long (M.2.1 103), .int (M.1 109), .int (M.1 110), .int (M.1 111), .int (M.1 112), .int (M.1 113), .long (M.2.1 104), .long (M.2.1 105), .long (M.2.1 106), .int (M.1 114), .int (M.1 115), .int (M.1 116), .int (M.1 117), .int (M.1 118), .int (M.1 119), .int (M.1 120), .int (M.1 121), .int (M.1 122), .int (M.1 123), .int (M.1 124), .long (M.2.1 107), .int (M.1 125), .ref (A 29), .ref (A 30), .ref (A 31)])), (A 21, .inl (Z 2, 4, .inl (M.2.2.1 21))), (A 25, .inl (Z 0, 4, .inl (M.2.2.1 25)))] := hD
    refine lv_aload_n hx hb d_R_move_89 rfl (lv_at hl 1 rfl) ?_
    refine lv_aload_n hx hb d_R_move_90 rfl (lv_at hl 1 rfl) ?_
    refine va_get (D := (dC, dI)) (ci := 10) (v := .long (((M.2.1 100) + ((1000 * ((M.1 103)).toInt64) / (j1).toInt64)) - (((((M.2.1 100) + ((1000 * ((M.1 103)).toInt64) / (j1).toInt64)) / 2000) + 200) + ((10000 * ((M.1 104)).toInt64) / (j1).toInt64)))) (C := "CentrifugeUnitModel") (T := xF10) (N := 45) hx hb htt xin10 hown hK hP 0 rfl rfl 11 (by decide) (htt _ tw_790) (fun _ h9 => h9) rfl d_R_move_91 ?_
    refine lv_lconst (v := 0) hx hb d_R_move_94 (by decide) ?_
    refine W.lcmp hx hb d_R_move_95 ?_
    refine xj_p 2 107 (fun q9 : Int64 => [(1, .int j1), (0, .ref (A 20))]) (fun q9 : Int64 => [.long q9, .ref (A 20)]) (fun q9 : Int64 => q9 = F_R_move_j3 M j1) (fun hJ4 => ?_) (fun ls j3 hl hj3 => ?_)
    · refine lv_if_ge (tgt := 103) hx hb d_R_move_96 rfl (fun h5 => ?_) (fun h5 => ?_)
      · refine lv_aload_n hx hb d_R_move_103 rfl (lv_at hl 1 rfl) ?_
        refine va_get (D := (dC, dI)) (ci := 10) (v := .long (((M.2.1 100) + ((1000 * ((M.1 103)).toInt64) / (j1).toInt64)) - (((((M.2.1 100) + ((1000 * ((M.1 103)).toInt64) / (j1).toInt64)) / 2000) + 200) + ((10000 * ((M.1 104)).toInt64) / (j1).toInt64)))) (C := "CentrifugeUnitModel") (T := xF10) (N := 45) hx hb htt xin10 hown hK hP 0 rfl rfl 11 (by decide) (htt _ tw_790) (fun _ h9 => h9) rfl d_R_move_104 ?_
        exact hJ4 _ (((M.2.1 100) + ((1000 * ((M.1 103)).toInt64) / (j1).toInt64)) - (((((M.2.1 100) + ((1000 * ((M.1 103)).toInt64) / (j1).toInt64)) / 2000) + 200) + ((10000 * ((M.1 104)).toInt64) / (j1).toInt64))) (lv_sub hl [0, 1] rfl) (by rw [F_R_move_j3, if_pos h5])
      · refine lv_lconst (v := 0) hx hb d_R_move_99 (by decide) ?_
        refine lv_goto (tgt := 107) hx hb d_R_move_100 rfl ?_
        exact hJ4 _ 0 (lv_sub hl [0, 1] rfl) (by rw [F_R_move_j3, if_neg h5])
    · refine va_put (D := (dC, dI)) (ci := 10) (v := .long j3) (ty := .long) (C := "CentrifugeUnitModel") (T := xF10) (N := 45) hx hb htt xin10 xT10 xTo10 xNm10 hown hK hP hD hS 0 rfl rfl 11 (by decide) (htt _ tw_790) (fun _ h9 => h9) rfl (by decide +kernel) rfl rfl (Nat.le_of_ble_eq_true rfl) d_R_move_107 (fun H locs hP hD hS => ?_)
      have hP : va_P (dC, dI) xcl [(A 20, .inr (10, [.int (M.1 100), .ref (A 21), .ref (A 22), .ref (A 23), .ref (A 24), .ref (A 25), .int (M.1 101), .ref (A 26), .ref (A 27), .ref (A 28), .int (M.1 102), .long j3, .int (M.1 103), .int (M.1 104), .int (M.1 105), .int (M.1 106), .int (M.1 107), .int (M.1 108), .long (M.2.1 101), .long (M.2.1 102), .long (M.2.1 103), .int (M.1 109), .int (M.1 110), .int (M.1 111), .int (M.1 112), .int (M.1 113), .long (M.2.1 104), .long (M.2.1 105), .long (M.2.1 106), .int (M.1 114), .int (M.1 115), .int (M.1 116), .int (M.1 117), .int (M.1 118), .int (M.1 119), .int (M.1 120), .int (M.1 121), .int (M.1 122), .int (M.1 123), .int (M.1 124), .long (M.2.1 107), .int (M.1 125), .ref (A 29), .ref (A 30), .ref (A 31)])), (A 21, .inl (Z 2, 4, .inl (M.2.2.1 21))), (A 25, .inl (Z 0, 4, .inl (M.2.2.1 25)))] H := hP
      have hD : va_D AA [(A 20, .inr (10, [.int (M.1 100), .ref (A 21), .ref (A 22), .ref (A 23), .ref (A 24), .ref (A 25), .int (M.1 101), .ref (A 26), .ref (A 27), .ref (A 28), .int (M.1 102), .long j3, .int (M.1 103), .int (M.1 104), .int (M.1 105), .int (M.1 106), .int (M.1 107), .int (M.1 108), .long (M.2.1 101), .long (M.2.1 102), .long (M.2.1 103), .int (M.1 109), .int (M.1 110), .int (M.1 111), .int (M.1 112), .int (M.1 113), .long (M.2.1 104), .long (M.2.1 105), .long (M.2.1 106), .int (M.1 114), .int (M.1 115), .int (M.1 116), .int (M.1 117), .int (M.1 118), .int (M.1 119), .int (M.1 120), .int (M.1 121), .int (M.1 122), .int (M.1 123), .int (M.1 124), .long (M.2.1 107), .int (M.1 125), .ref (A 29), .ref (A 30), .ref (A 31)])), (A 21, .inl (Z 2, 4, .inl (M.2.2.1 21))), (A 25, .inl (Z 0, 4, .inl (M.2.2.1 25)))] := hD
      have hP9 := hP.sub (ws' := [(A 20, xc20 Z A (ap_R_move M j3)), (A 21, xc21 Z A (ap_R_move M j3)), (A 25, xc25 Z A (ap_R_move M j3))]) [0, 1, 2] rfl
      have hD9 := hD.sub (ws' := [(A 20, xc20 Z A (ap_R_move M j3)), (A 21, xc21 Z A (ap_R_move M j3)), (A 25, xc25 Z A (ap_R_move M j3))]) [0, 1, 2] (by decide) rfl
      exact W.vret hx hb hr (fun t ht hW => ⟨⟨j3, rfl, (by rw [F_R_move, ← hj1, F_R_move_k2, ← hj3, F_R_move_k4]), xE_at hP9 hK hD9 ht hW⟩, hS.F ht⟩) hS.2.2 d_R_move_110
