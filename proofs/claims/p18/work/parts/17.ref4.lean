set_option maxRecDepth 20000 in
theorem tw_784 : Cond.fieldLink "CentrifugeUnitModel" 23 "CentrifugeUnitModel" "inertia" "[I" ∈ xw := xw_of (List.mem_append_right _ (List.mem_of_getElem? (i := 784) (by decide +kernel))) rfl
set_option maxRecDepth 20000 in
theorem tw_928 : Cond.constantLong "CentrifugeUnitModel" 83 (255 : Int64) ∈ xw := xw_of (List.mem_append_right _ (List.mem_of_getElem? (i := 928) (by decide +kernel))) rfl
set_option maxRecDepth 20000 in
theorem tw_930 : Cond.constantLong "CentrifugeUnitModel" 87 (300 : Int64) ∈ xw := xw_of (List.mem_append_right _ (List.mem_of_getElem? (i := 930) (by decide +kernel))) rfl
set_option maxRecDepth 20000 in
theorem tw_933 : Cond.constantLong "CentrifugeUnitModel" 93 (1000 : Int64) ∈ xw := xw_of (List.mem_append_right _ (List.mem_of_getElem? (i := 933) (by decide +kernel))) rfl
set_option maxRecDepth 20000 in
theorem tw_947 : Cond.methodLink "CentrifugeUnitModel" 116 ⟨"CentrifugeUnitModel", "isSegment", "(III)Z"⟩ ∈ xw := xw_of (List.mem_append_right _ (List.mem_of_getElem? (i := 947) (by decide +kernel))) rfl
set_option maxRecDepth 20000 in
theorem tw_948 : Cond.static ⟨"CentrifugeUnitModel", "isSegment", "(III)Z"⟩ ∈ xw := xw_of (List.mem_append_right _ (List.mem_of_getElem? (i := 948) (by decide +kernel))) rfl
set_option maxRecDepth 20000 in
theorem tw_949 : Cond.code ⟨"CentrifugeUnitModel", "isSegment", "(III)Z"⟩ prog_12_method_9_code 3 (Option.some Jvm.ClassFile.FieldType.boolean) ∈ xw := xw_of (List.mem_append_right _ (List.mem_of_getElem? (i := 949) (by decide +kernel))) rfl
set_option maxRecDepth 20000 in
theorem tw_1002 : Cond.constantLong "CentrifugeUnitModel" 240 (2000 : Int64) ∈ xw := xw_of (List.mem_append_right _ (List.mem_of_getElem? (i := 1002) (by decide +kernel))) rfl
set_option maxRecDepth 20000 in
theorem tw_1066 : Cond.constantLong "CentrifugeUnitModel" 250 (2 : Int64) ∈ xw := xw_of (List.mem_append_right _ (List.mem_of_getElem? (i := 1066) (by decide +kernel))) rfl
theorem xth0 {M : XM} {a b : Int32} (h : (F_R_throwing M a b).1 = 0) : a = 0 ∧ b = 0 := by
  rw [F_R_throwing, F_R_throwing_k2] at h
  by_cases ha : a = 0
  · by_cases hb : b = 0
    · exact ⟨ha, hb⟩
    · have e : F_R_throwing_j1 M a b = 2 := by rw [F_R_throwing_j1, if_pos ha, if_neg hb]
      rw [e] at h
      exact absurd h (by decide)
  · have e : F_R_throwing_j1 M a b = 1 := by rw [F_R_throwing_j1, if_neg ha]
    rw [e] at h
    exact absurd h (by decide)
theorem xseg {x : Int32} (h0 : 0 ≤ x) (h1 : x ≤ 12) (h : ¬ x = 12) : vp_in x 12 := by
  rw [Int32.le_iff_toInt_le] at h0 h1
  have h2 : x.toInt ≠ 12 := fun q => h (Int32.toInt_inj.mp (by rw [q]; decide))
  refine xin_of ?_ ?_ <;> simp at h0 h1 ⊢ <;> omega
theorem xrin {M : XM} {x z : Int32} (h : ¬ z = 0) (hz : z = F_R_in M x.toInt64 0 3) : vp_in x 4 := by
  rw [hz, F_R_in] at h
  split at h
  · exact absurd rfl h
  · rename_i h1
    split at h
    · exact absurd rfl h
    · rename_i h2
      have e1 : ¬ x.toInt64 < 0 := fun q => h1 ((lg_cmp_lt _ _).mpr q)
      have e2 : ¬ (3 : Int64) < x.toInt64 := fun q => h2 ((lg_cmp_gt _ _).mpr q)
      rw [Int64.lt_iff_toInt_lt, Int32.toInt_toInt64] at e1 e2
      refine xin_of ?_ ?_ <;> simp at e1 e2 ⊢ <;> omega
theorem xnz64 {x : Int32} (h : ¬ x = 0) : ¬ x.toInt64 = 0 := by
  intro q
  have q1 := congrArg Int64.toInt q
  rw [Int32.toInt_toInt64] at q1
  exact h (Int32.toInt_inj.mp (by rw [q1]; decide))
theorem xrm16n {x : Int32} (h : ¬ x < 0) : vp_in (x - x / 16 * 16) 16 := xrm16 (by rw [Int32.le_iff_toInt_le]; rw [Int32.lt_iff_toInt_lt] at h; simp at h ⊢; omega)
abbrev bc_R_move : ByteArray := prog_12_method_26_code
def y_R_move : MethodName := ⟨"CentrifugeUnitModel", "move", "()V"⟩
theorem d_R_move_0 : decode bc_R_move 0 = .ok (.aload_n 0, 1) := by decide +kernel
theorem d_R_move_1 : decode bc_R_move 1 = .ok (.getfield 26, 3) := by decide +kernel
theorem d_R_move_4 : decode bc_R_move 4 = .ok (.ifCond .lt 27, 3) := by decide +kernel
theorem d_R_move_7 : decode bc_R_move 7 = .ok (.aload_n 0, 1) := by decide +kernel
theorem d_R_move_8 : decode bc_R_move 8 = .ok (.getfield 7, 3) := by decide +kernel
theorem d_R_move_11 : decode bc_R_move 11 = .ok (.aload_n 0, 1) := by decide +kernel
theorem d_R_move_12 : decode bc_R_move 12 = .ok (.getfield 26, 3) := by decide +kernel
theorem d_R_move_15 : decode bc_R_move 15 = .ok (.baload, 1) := by decide +kernel
theorem d_R_move_16 : decode bc_R_move 16 = .ok (.ifCond .eq 15, 3) := by decide +kernel
theorem d_R_move_19 : decode bc_R_move 19 = .ok (.aload_n 0, 1) := by decide +kernel
theorem d_R_move_20 : decode bc_R_move 20 = .ok (.getfield 23, 3) := by decide +kernel
theorem d_R_move_23 : decode bc_R_move 23 = .ok (.aload_n 0, 1) := by decide +kernel
theorem d_R_move_24 : decode bc_R_move 24 = .ok (.getfield 26, 3) := by decide +kernel
theorem d_R_move_27 : decode bc_R_move 27 = .ok (.iaload, 1) := by decide +kernel
theorem d_R_move_28 : decode bc_R_move 28 = .ok (.goto 5, 3) := by decide +kernel
theorem d_R_move_31 : decode bc_R_move 31 = .ok (.bipush 100, 2) := by decide +kernel
theorem d_R_move_33 : decode bc_R_move 33 = .ok (.istore_n 1, 1) := by decide +kernel
theorem d_R_move_34 : decode bc_R_move 34 = .ok (.aload_n 0, 1) := by decide +kernel
theorem d_R_move_35 : decode bc_R_move 35 = .ok (.dup, 1) := by decide +kernel
theorem d_R_move_36 : decode bc_R_move 36 = .ok (.getfield 180, 3) := by decide +kernel
theorem d_R_move_39 : decode bc_R_move 39 = .ok (.ldc2_w 93, 3) := by decide +kernel
theorem d_R_move_42 : decode bc_R_move 42 = .ok (.aload_n 0, 1) := by decide +kernel
theorem d_R_move_43 : decode bc_R_move 43 = .ok (.getfield 171, 3) := by decide +kernel
theorem d_R_move_46 : decode bc_R_move 46 = .ok (.i2l, 1) := by decide +kernel
theorem d_R_move_47 : decode bc_R_move 47 = .ok (.lmul, 1) := by decide +kernel
theorem d_R_move_48 : decode bc_R_move 48 = .ok (.iload_n 1, 1) := by decide +kernel
theorem d_R_move_49 : decode bc_R_move 49 = .ok (.i2l, 1) := by decide +kernel
theorem d_R_move_50 : decode bc_R_move 50 = .ok (.ldiv, 1) := by decide +kernel
theorem d_R_move_51 : decode bc_R_move 51 = .ok (.ladd, 1) := by decide +kernel
theorem d_R_move_52 : decode bc_R_move 52 = .ok (.putfield 180, 3) := by decide +kernel
theorem d_R_move_55 : decode bc_R_move 55 = .ok (.aload_n 0, 1) := by decide +kernel
theorem d_R_move_56 : decode bc_R_move 56 = .ok (.dup, 1) := by decide +kernel
theorem d_R_move_57 : decode bc_R_move 57 = .ok (.getfield 180, 3) := by decide +kernel
theorem d_R_move_60 : decode bc_R_move 60 = .ok (.aload_n 0, 1) := by decide +kernel
theorem d_R_move_61 : decode bc_R_move 61 = .ok (.getfield 180, 3) := by decide +kernel
theorem d_R_move_64 : decode bc_R_move 64 = .ok (.ldc2_w 240, 3) := by decide +kernel
theorem d_R_move_67 : decode bc_R_move 67 = .ok (.ldiv, 1) := by decide +kernel
theorem d_R_move_68 : decode bc_R_move 68 = .ok (.ldc2_w 198, 3) := by decide +kernel
theorem d_R_move_71 : decode bc_R_move 71 = .ok (.ladd, 1) := by decide +kernel
theorem d_R_move_72 : decode bc_R_move 72 = .ok (.ldc2_w 163, 3) := by decide +kernel
theorem d_R_move_75 : decode bc_R_move 75 = .ok (.aload_n 0, 1) := by decide +kernel
theorem d_R_move_76 : decode bc_R_move 76 = .ok (.getfield 174, 3) := by decide +kernel
theorem d_R_move_79 : decode bc_R_move 79 = .ok (.i2l, 1) := by decide +kernel
theorem d_R_move_80 : decode bc_R_move 80 = .ok (.lmul, 1) := by decide +kernel
theorem d_R_move_81 : decode bc_R_move 81 = .ok (.iload_n 1, 1) := by decide +kernel
theorem d_R_move_82 : decode bc_R_move 82 = .ok (.i2l, 1) := by decide +kernel
theorem d_R_move_83 : decode bc_R_move 83 = .ok (.ldiv, 1) := by decide +kernel
theorem d_R_move_84 : decode bc_R_move 84 = .ok (.ladd, 1) := by decide +kernel
theorem d_R_move_85 : decode bc_R_move 85 = .ok (.lsub, 1) := by decide +kernel
theorem d_R_move_86 : decode bc_R_move 86 = .ok (.putfield 180, 3) := by decide +kernel
theorem d_R_move_89 : decode bc_R_move 89 = .ok (.aload_n 0, 1) := by decide +kernel
theorem d_R_move_90 : decode bc_R_move 90 = .ok (.aload_n 0, 1) := by decide +kernel
theorem d_R_move_91 : decode bc_R_move 91 = .ok (.getfield 180, 3) := by decide +kernel
theorem d_R_move_94 : decode bc_R_move 94 = .ok (.lconst 0, 1) := by decide +kernel
theorem d_R_move_95 : decode bc_R_move 95 = .ok (.lcmp, 1) := by decide +kernel
theorem d_R_move_96 : decode bc_R_move 96 = .ok (.ifCond .ge 7, 3) := by decide +kernel
theorem d_R_move_99 : decode bc_R_move 99 = .ok (.lconst 0, 1) := by decide +kernel
theorem d_R_move_100 : decode bc_R_move 100 = .ok (.goto 7, 3) := by decide +kernel
theorem d_R_move_103 : decode bc_R_move 103 = .ok (.aload_n 0, 1) := by decide +kernel
theorem d_R_move_104 : decode bc_R_move 104 = .ok (.getfield 180, 3) := by decide +kernel
theorem d_R_move_107 : decode bc_R_move 107 = .ok (.putfield 180, 3) := by decide +kernel
theorem d_R_move_110 : decode bc_R_move 110 = .ok (.return_, 1) := by decide +kernel
abbrev ap_R_move (M : XM) (u : Int64) : XM := (M.1, (va_up M.2.1 100 u), M.2.2)
def F_R_move_k4 (M : XM) (j1 : Int32) (j3 : Int64) : (Int64) := j3
def F_R_move_j3 (M : XM) (j1 : Int32) : Int64 := (if 0 ≤ (lg_cmp (((M.2.1 100) + ((1000 * ((M.1 103)).toInt64) / (j1).toInt64)) - (((((M.2.1 100) + ((1000 * ((M.1 103)).toInt64) / (j1).toInt64)) / 2000) + 200) + ((10000 * ((M.1 104)).toInt64) / (j1).toInt64))) 0) then (((M.2.1 100) + ((1000 * ((M.1 103)).toInt64) / (j1).toInt64)) - (((((M.2.1 100) + ((1000 * ((M.1 103)).toInt64) / (j1).toInt64)) / 2000) + 200) + ((10000 * ((M.1 104)).toInt64) / (j1).toInt64))) else 0)
def F_R_move_k2 (M : XM) (j1 : Int32) : (Int64) := (F_R_move_k4 M j1 (F_R_move_j3 M j1))
def F_R_move_j1 (M : XM) : Int32 := (if (M.1 101) < 0 then 100 else (if ((M.2.2.1 21) ((M.1 101)).toNatClampNeg) = 0 then 100 else ((M.2.2.1 25) ((M.1 101)).toNatClampNeg)))
def F_R_move (M : XM) : (Int64) := (F_R_move_k2 M (F_R_move_j1 M))
set_option maxHeartbeats 4000000 in
set_option maxRecDepth 100000 in
theorem c_R_move (l : Launch) (dC : Nat → ClassId) (dI : Nat → Nat → Nat) (Z : Nat → ClassId) (A : Nat → Nat) (sz : Nat) (M : XM) (hin : (M.1 101) < 4) (hmv : ¬ (M.1 101) < 0 → ¬ ((M.2.2.1 21) ((M.1 101)).toNatClampNeg) = 0 → ¬ ((M.2.2.1 25) ((M.1 101)).toNatClampNeg) = 0) : Met l y_R_move (.code y_R_move bc_R_move 2 none :: xw) ({ frames := 0, cells := 0, slots := 0, locals := 0 }) (va_Pc [.ref (A 20)] (xB (dC, dI) xcl (xty Z) sz [(A 20, xc20 Z A M), (A 21, xc21 Z A M), (A 25, xc25 Z A M)])) (va_Qv (fun u : Int64 => u = F_R_move M) (fun u => xE (dC, dI) xcl (xty Z) (va_A [(A 20, xc20 Z A M), (A 21, xc21 Z A M), (A 25, xc25 Z A M)] sz) [(A 20, xc20 Z A (ap_R_move M u)), (A 21, xc21 Z A (ap_R_move M u)), (A 25, xc25 Z A (ap_R_move M u))]) (va_A [(A 20, xc20 Z A M), (A 21, xc21 Z A M), (A 25, xc25 Z A M)] sz)) 0 0 (va_A [(A 20, xc20 Z A M), (A 21, xc21 Z A M), (A 25, xc25 Z A M)] sz) := by
  refine Met.ofW (cc := bc_R_move) (maxL := 2) (ret := none) (by decide) rfl ?_
  intro p e s m args below meth c s₁ B hml hv
  obtain ⟨rfl, hsz, hP, hK, hD0, hq⟩ := hv
  have hx := B.exec
  have hb := B.bytes
  have hr := B.returns
  have hts := atoms_spec (ws := (.code y_R_move bc_R_move 2 none :: xw)) B.pre
  have htt : ∀ w ∈ xw, w.before _ s = true := fun w h => hts w (List.mem_cons_of_mem _ h)
  have hown : s.vm.findClass "CentrifugeUnitModel" = some m.cls := findClass_of_methodNamed B.named
  have hlocks := B.notSynchronized
  subst hsz
  have hD := hD0.self (sz := s.heap.size)
  generalize hAe : va_A [(A 20, xc20 Z A M), (A 21, xc21 Z A M), (A 25, xc25 Z A M)] s.heap.size = AA at hD ⊢
  have hA : ∀ q : Nat, s.heap.size ≤ q → AA q := fun q h => by rw [← hAe]; exact Or.inr h
  have hS : va_S AA s.heap s.heap [] := va_S.rf
  have hP : va_P (dC, dI) xcl [(A 20, .inr (10, [.int (M.1 100), .ref (A 21), .ref (A 22), .ref (A 23), .ref (A 24), .ref (A 25), .int (M.1 101), .ref (A 26), .ref (A 27), .ref (A 28), .int (M.1 102), .long (M.2.1 100), .int (M.1 103), .int (M.1 104), .int (M.1 105), .int (M.1 106), .int (M.1 107), .int (M.1 108), .long (M.2.1 101), .long (M.2.1 102), .long (M.2.1 103), .int (M.1 109), .int (M.1 110), .int (M.1 111), .int (M.1 112), .int (M.1 113), .long (M.2.1 104), .long (M.2.1 105), .long (M.2.1 106), .int (M.1 114), .int (M.1 115), .int (M.1 116), .int (M.1 117), .int (M.1 118), .int (M.1 119), .int (M.1 120), .int (M.1 121), .int (M.1 122), .int (M.1 123), .int (M.1 124), .long (M.2.1 107), .int (M.1 125), .ref (A 29), .ref (A 30), .ref (A 31)])), (A 21, .inl (Z 2, 4, .inl (M.2.2.1 21))), (A 25, .inl (Z 0, 4, .inl (M.2.2.1 25)))] s.heap := hP
  have hD : va_D AA [(A 20, .inr (10, [.int (M.1 100), .ref (A 21), .ref (A 22), .ref (A 23), .ref (A 24), .ref (A 25), .int (M.1 101), .ref (A 26), .ref (A 27), .ref (A 28), .int (M.1 102), .long (M.2.1 100), .int (M.1 103), .int (M.1 104), .int (M.1 105), .int (M.1 106), .int (M.1 107), .int (M.1 108), .long (M.2.1 101), .long (M.2.1 102), .long (M.2.1 103), .int (M.1 109), .int (M.1 110), .int (M.1 111), .int (M.1 112), .int (M.1 113), .long (M.2.1 104), .long (M.2.1 105), .long (M.2.1 106), .int (M.1 114), .int (M.1 115), .int (M.1 116), .int (M.1 117), .int (M.1 118), .int (M.1 119), .int (M.1 120), .int (M.1 121), .int (M.1 122), .int (M.1 123), .int (M.1 124), .long (M.2.1 107), .int (M.1 125), .ref (A 29), .ref (A 30), .ref (A 31)])), (A 21, .inl (Z 2, 4, .inl (M.2.2.1 21))), (A 25, .inl (Z 0, 4, .inl (M.2.2.1 25)))] := hD
  have hl := lv_entry ([.ref (A 20)]) (n := 2) (Nat.le_of_ble_eq_true rfl)
  rw [lg_entry_eq]
  generalize (lg_sl ([.ref (A 20)]) ++ List.replicate (2 - (lg_sl ([.ref (A 20)])).length) Slot.unset).toArray = ls at hl ⊢
  have hl : lv_has ls 2 [(0, .ref (A 20))] := hl
  refine lv_aload_n hx hb d_R_move_0 rfl (lv_at hl 0 rfl) ?_
  refine va_get (D := (dC, dI)) (ci := 10) (v := .int (M.1 101)) (C := "CentrifugeUnitModel") (T := xF10) (N := 45) hx hb htt xin10 hown hK hP 0 rfl rfl 6 (by decide) (htt _ tw_785) (fun _ h9 => h9) rfl d_R_move_1 ?_
  refine xj_p 2 33 (fun q9 : Int32 => [(0, .ref (A 20))]) (fun q9 : Int32 => [.int q9]) (fun q9 : Int32 => q9 = F_R_move_j1 M) (fun hJ2 => ?_) (fun ls j1 hl hj1 => ?_)
  · refine lv_if_lt (tgt := 31) hx hb d_R_move_4 rfl (fun h6 => ?_) (fun h6 => ?_)
    · refine lv_bipush (v := 100) hx hb d_R_move_31 (by decide) ?_
      exact hJ2 _ 100 (lv_sub hl [0] rfl) (by rw [F_R_move_j1, if_pos h6])
    · refine lv_aload_n hx hb d_R_move_7 rfl (lv_at hl 0 rfl) ?_
      refine va_get (D := (dC, dI)) (ci := 10) (v := .ref (A 21)) (C := "CentrifugeUnitModel") (T := xF10) (N := 45) hx hb htt xin10 hown hK hP 0 rfl rfl 1 (by decide) (htt _ tw_780) (fun _ h9 => h9) rfl d_R_move_8 ?_
      refine lv_aload_n hx hb d_R_move_11 rfl (lv_at hl 0 rfl) ?_
      refine va_get (D := (dC, dI)) (ci := 10) (v := .int (M.1 101)) (C := "CentrifugeUnitModel") (T := xF10) (N := 45) hx hb htt xin10 hown hK hP 0 rfl rfl 6 (by decide) (htt _ tw_785) (fun _ h9 => h9) rfl d_R_move_12 ?_
      refine va_zald (D := (dC, dI)) hx hb hK hP 1 2 rfl rfl (xlt4 h6 hin) d_R_move_15 ?_
      refine lv_if_eq (tgt := 31) hx hb d_R_move_16 rfl (fun h7 => ?_) (fun h7 => ?_)
      · refine lv_bipush (v := 100) hx hb d_R_move_31 (by decide) ?_
        exact hJ2 _ 100 (lv_sub hl [0] rfl) (by rw [F_R_move_j1, if_neg h6, if_pos h7])
      · refine lv_aload_n hx hb d_R_move_19 rfl (lv_at hl 0 rfl) ?_
        refine va_get (D := (dC, dI)) (ci := 10) (v := .ref (A 25)) (C := "CentrifugeUnitModel") (T := xF10) (N := 45) hx hb htt xin10 hown hK hP 0 rfl rfl 5 (by decide) (htt _ tw_784) (fun _ h9 => h9) rfl d_R_move_20 ?_
        refine lv_aload_n hx hb d_R_move_23 rfl (lv_at hl 0 rfl) ?_
        refine va_get (D := (dC, dI)) (ci := 10) (v := .int (M.1 101)) (C := "CentrifugeUnitModel") (T := xF10) (N := 45) hx hb htt xin10 hown hK hP 0 rfl rfl 6 (by decide) (htt _ tw_785) (fun _ h9 => h9) rfl d_R_move_24 ?_
        refine va_iald (D := (dC, dI)) hx hb hK hP 2 0 rfl rfl (xlt4 h6 hin) d_R_move_27 ?_
        refine lv_goto (tgt := 33) hx hb d_R_move_28 rfl ?_
        exact hJ2 _ ((M.2.2.1 25) ((M.1 101)).toNatClampNeg) (lv_sub hl [0] rfl) (by rw [F_R_move_j1, if_neg h6, if_neg h7])
  · refine lv_istore_n (lv' := [(1, .int j1), (0, .ref (A 20))]) hx hb d_R_move_33 rfl hl (by decide) rfl (fun ls hl => ?_)
    refine lv_aload_n hx hb d_R_move_34 rfl (lv_at hl 1 rfl) ?_
    refine lv_dup hx hb d_R_move_35 rfl ?_
    refine va_get (D := (dC, dI)) (ci := 10) (v := .long (M.2.1 100)) (C := "CentrifugeUnitModel") (T := xF10) (N := 45) hx hb htt xin10 hown hK hP 0 rfl rfl 11 (by decide) (htt _ tw_790) (fun _ h9 => h9) rfl d_R_move_36 ?_
    refine lv_ldc2 (v := 1000) hx hb hown (htt _ tw_933) d_R_move_39 ?_
    refine lv_aload_n hx hb d_R_move_42 rfl (lv_at hl 1 rfl) ?_
    refine va_get (D := (dC, dI)) (ci := 10) (v := .int (M.1 103)) (C := "CentrifugeUnitModel") (T := xF10) (N := 45) hx hb htt xin10 hown hK hP 0 rfl rfl 12 (by decide) (htt _ tw_791) (fun _ h9 => h9) rfl d_R_move_43 ?_
    refine lv_i2l (v := ((M.1 103)).toInt64) hx hb d_R_move_46 rfl ?_
    refine lv_lmul hx hb d_R_move_47 ?_
    refine lv_iload_n hx hb d_R_move_48 rfl (lv_at hl 0 rfl) ?_
    refine lv_i2l (v := (j1).toInt64) hx hb d_R_move_49 rfl ?_
    refine lv_ldiv hx hb d_R_move_50 (xnz64 (by rw [hj1, F_R_move_j1]; split; decide; split; decide; exact hmv (by assumption) (by assumption))) ?_
    refine lv_ladd hx hb d_R_move_51 ?_
    refine va_put (D := (dC, dI)) (ci := 10) (v := .long ((M.2.1 100) + ((1000 * ((M.1 103)).toInt64) / (j1).toInt64))) (ty := .long) (C := "CentrifugeUnitModel") (T := xF10) (N := 45) hx hb htt xin10 xT10 xTo10 xNm10 hown hK hP hD hS 0 rfl rfl 11 (by decide) (htt _ tw_790) (fun _ h9 => h9) rfl (by decide +kernel) rfl rfl (Nat.le_of_ble_eq_true rfl) d_R_move_52 (fun H locs hP hD hS => ?_)
    have hP : va_P (dC, dI) xcl [(A 20, .inr (10, [.int (M.1 100), .ref (A 21), .ref (A 22), .ref (A 23), .ref (A 24), .ref (A 25), .int (M.1 101), .ref (A 26), .ref (A 27), .ref (A 28), .int (M.1 102), .long ((M.2.1 100) + ((1000 * ((M.1 103)).toInt64) / (j1).toInt64)), .int (M.1 103), .int (M.1 104), .int (M.1 105), .int (M.1 106), .int (M.1 107), .int (M.1 108), .long (M.2.1 101), .long (M.2.1 102), .long (M.2.1 103), .int (M.1 109), .int (M.1 110), .int (M.1 111), .int (M.1 112), .int (M.1 113), .long (M.2.1 104), .long (M.2.1 105), .long (M.2.1 106), .int (M.1 114), .int (M.1 115), .int (M.1 116), .int (M.1 117), .int (M.1 118), .int (M.1 119), .int (M.1 120), .int (M.1 121), .int (M.1 122), .int (M.1 123), .int (M.1 124), .long (M.2.1 107), .int (M.1 125), .ref (A 29), .ref (A 30), .ref (A 31)])), (A 21, .inl (Z 2, 4, .inl (M.2.2.1 21))), (A 25, .inl (Z 0, 4, .inl (M.2.2.1 25)))] H := hP
    have hD : va_D AA [(A 20, .inr (10, [.int (M.1 100), .ref (A 21), .ref (A 22), .ref (A 23), .ref (A 24), .ref (A 25), .int (M.1 101), .ref (A 26), .ref (A 27), .ref (A 28), .int (M.1 102), .long ((M.2.1 100) + ((1000 * ((M.1 103)).toInt64) / (j1).toInt64)), .int (M.1 103), .int (M.1 104), .int (M.1 105), .int (M.1 106), .int (M.1 107), .int (M.1 108), .long (M.2.1 101), .long (M.2.1 102), .long (M.2.1 103), .int (M.1 109), .int (M.1 110), .int (M.1 111), .int (M.1 112), .int (M.1 113), .long (M.2.1 104), .long (M.2.1 105), .long (M.2.1 106), .int (M.1 114), .int (M.1 115), .int (M.1 116), .int (M.1 117), .int (M.1 118), .int (M.1 119), .int (M.1 120), .int (M.1 121), .int (M.1 122), .int (M.1 123), .int (M.1 124), .long (M.2.1 107), .int (M.1 125), .ref (A 29), .ref (A 30), .ref (A 31)])), (A 21, .inl (Z 2, 4, .inl (M.2.2.1 21))), (A 25, .inl (Z 0, 4, .inl (M.2.2.1 25)))] := hD
    refine lv_aload_n hx hb d_R_move_55 rfl (lv_at hl 1 rfl) ?_
    refine lv_dup hx hb d_R_move_56 rfl ?_
    refine va_get (D := (dC, dI)) (ci := 10) (v := .long ((M.2.1 100) + ((1000 * ((M.1 103)).toInt64) / (j1).toInt64))) (C := "CentrifugeUnitModel") (T := xF10) (N := 45) hx hb htt xin10 hown hK hP 0 rfl rfl 11 (by decide) (htt _ tw_790) (fun _ h9 => h9) rfl d_R_move_57 ?_
    refine lv_aload_n hx hb d_R_move_60 rfl (lv_at hl 1 rfl) ?_
    refine va_get (D := (dC, dI)) (ci := 10) (v := .long ((M.2.1 100) + ((1000 * ((M.1 103)).toInt64) / (j1).toInt64))) (C := "CentrifugeUnitModel") (T := xF10) (N := 45) hx hb htt xin10 hown hK hP 0 rfl rfl 11 (by decide) (htt _ tw_790) (fun _ h9 => h9) rfl d_R_move_61 ?_
    refine lv_ldc2 (v := 2000) hx hb hown (htt _ tw_1002) d_R_move_64 ?_
    refine lv_ldiv hx hb d_R_move_67 (by decide) ?_
    refine lv_ldc2 (v := 200) hx hb hown (htt _ tw_1014) d_R_move_68 ?_
    refine lv_ladd hx hb d_R_move_71 ?_
    refine lv_ldc2 (v := 10000) hx hb hown (htt _ tw_989) d_R_move_72 ?_
    refine lv_aload_n hx hb d_R_move_75 rfl (lv_at hl 1 rfl) ?_
    refine va_get (D := (dC, dI)) (ci := 10) (v := .int (M.1 104)) (C := "CentrifugeUnitModel") (T := xF10) (N := 45) hx hb htt xin10 hown hK hP 0 rfl rfl 13 (by decide) (htt _ tw_792) (fun _ h9 => h9) rfl d_R_move_76 ?_
    refine lv_i2l (v := ((M.1 104)).toInt64) hx hb d_R_move_79 rfl ?_
    refine lv_lmul hx hb d_R_move_80 ?_
    refine lv_iload_n hx hb d_R_move_81 rfl (lv_at hl 0 rfl) ?_
    refine lv_i2l (v := (j1).toInt64) hx hb d_R_move_82 rfl ?_
    refine lv_ldiv hx hb d_R_move_83 (xnz64 (by rw [hj1, F_R_move_j1]; split; decide; split; decide; exact hmv (by assumption) (by assumption))) ?_
    refine lv_ladd hx hb d_R_move_84 ?_
    refine lv_lsub hx hb d_R_move_85 ?_
    refine va_put (D := (dC, dI)) (ci := 10) (v := .long (((M.2.1 100) + ((1000 * ((M.1 103)).toInt64) / (j1).toInt64)) - (((((M.2.1 100) + ((1000 * ((M.1 103)).toInt64) / (j1).toInt64)) / 2000) + 200) + ((10000 * ((M.1 104)).toInt64) / (j1).toInt64)))) (ty := .long) (C := "CentrifugeUnitModel") (T := xF10) (N := 45) hx hb htt xin10 xT10 xTo10 xNm10 hown hK hP hD hS 0 rfl rfl 11 (by decide) (htt _ tw_790) (fun _ h9 => h9) rfl (by decide +kernel) rfl rfl (Nat.le_of_ble_eq_true rfl) d_R_move_86 (fun H locs hP hD hS => ?_)
    have hP : va_P (dC, dI) xcl [(A 20, .inr (10, [.int (M.1 100), .ref (A 21), .ref (A 22), .ref (A 23), .ref (A 24), .ref (A 25), .int (M.1 101), .ref (A 26), .ref (A 27), .ref (A 28), .int (M.1 102), .long (((M.2.1 100) + ((1000 * ((M.1 103)).toInt64) / (j1).toInt64)) - (((((M.2.1 100) + ((1000 * ((M.1 103)).toInt64) / (j1).toInt64)) / 2000) + 200) + ((10000 * ((M.1 104)).toInt64) / (j1).toInt64))), .int (M.1 103), .int (M.1 104), .int (M.1 105), .int (M.1 106), .int (M.1 107), .int (M.1 108), .long (M.2.1 101), .long (M.2.1 102), .long (M.2.1 103), .int (M.1 109), .int (M.1 110), .int (M.1 111), .int (M.1 112), .int (M.1 113), .long (M.2.1 104), .long (M.2.1 105), .long (M.2.1 106), .int (M.1 114), .int (M.1 115), .int (M.1 116), .int (M.1 117), .int (M.1 118), .int (M.1 119), .int (M.1 120), .int (M.1 121), .int (M.1 122), .int (M.1 123), .int (M.1 124), .long (M.2.1 107), .int (M.1 125), .ref (A 29), .ref (A 30), .ref (A 31)])), (A 21, .inl (Z 2, 4, .inl (M.2.2.1 21))), (A 25, .inl (Z 0, 4, .inl (M.2.2.1 25)))] H := hP
    have hD : va_D AA [(A 20, .inr (10, [.int (M.1 100), .ref (A 21), .ref (A 22), .ref (A 23), .ref (A 24), .ref (A 25), .int (M.1 101), .ref (A 26), .ref (A 27), .ref (A 28), .int (M.1 102), .long (((M.2.1 100) + ((1000 * ((M.1 103)).toInt64) / (j1).toInt64)) - (((((M.2.1 100) + ((1000 * ((M.1 103)).toInt64) / (j1).toInt64)) / 2000) + 200) + ((10000 * ((M.1 104)).toInt64) / (j1).toInt64))), .int (M.1 103), .int (M.1 104), .int (M.1 105), .int (M.1 106), .int (M.1 107), .int (M.1 108), .long (M.2.1 101), .long (M.2.1 102), .long (M.2.1 103), .int (M.1 109), .int (M.1 110), .int (M.1 111), .int (M.1 112), .int (M.1 113), .long (M.2.1 104), .long (M.2.1 105), .long (M.2.1 106), .int (M.1 114), .int (M.1 115), .int (M.1 116), .int (M.1 117), .int (M.1 118), .int (M.1 119), .int (M.1 120), .int (M.1 121), .int (M.1 122), .int (M.1 123), .int (M.1 124), .long (M.2.1 107), .int (M.1 125), .ref (A 29), .ref (A 30), .ref (A 31)])), (A 21, .inl (Z 2, 4, .inl (M.2.2.1 21))), (A 25, .inl (Z 0, 4, .inl (M.2.2.1 25)))] := hD
    refine lv_aload_n hx hb d_R_move_89 rfl (lv_at hl 1 rfl) ?_
    refine lv_aload_n hx hb d_R_move_90 rfl (lv_at hl 1 rfl) ?_
    refine va_get (D := (dC, dI)) (ci := 10) (v := .long (((M.2.1 100) + ((1000 * ((M.1 103)).toInt64) / (j1).toInt64)) - (((((M.2.1 100) + ((1000 * ((M.1 103)).toInt64) / (j1).toInt64)) / 2000) + 200) + ((10000 * ((M.1 104)).toInt64) / (j1).toInt64)))) (C := "CentrifugeUnitModel") (T := xF10) (N := 45) hx hb htt xin10 hown hK hP 0 rfl rfl 11 (by decide) (htt _ tw_790) (fun _ h9 => h9) rfl d_R_move_91 ?_
    refine lv_lconst (v := 0) hx hb d_R_move_94 (by decide) ?_
    refine W.lcmp hx hb d_R_move_95 ?_
    refine xj_p 2 107 (fun q9 : Int64 => [(1, .int j1), (0, .ref (A 20))]) (fun q9 : Int64 => [.long q9, .ref (A 20)]) (fun q9 : Int64 => q9 = F_R_move_j3 M j1) (fun hJ4 => ?_) (fun ls j3 hl hj3 => ?_)
    · refine lv_if_ge (tgt := 103) hx hb d_R_move_96 rfl (fun h5 => ?_) (fun h5 => ?_)
      · refine lv_aload_n hx hb d_R_move_103 rfl (lv_at hl 1 rfl) ?_
        refine va_get (D := (dC, dI)) (ci := 10) (v := .long (((M.2.1 100) + ((1000 * ((M.1 103)).toInt64) / (j1).toInt64)) - (((((M.2.1 100) + ((1000 * ((M.1 103)).toInt64) / (j1).toInt64)) / 2000) + 200) + ((10000 * ((M.1 104)).toInt64) / (j1).toInt64)))) (C := "CentrifugeUnitModel") (T := xF10) (N := 45) hx hb htt xin10 hown hK hP 0 rfl rfl 11 (by decide) (htt _ tw_790) (fun _ h9 => h9) rfl d_R_move_104 ?_
        exact hJ4 _ (((M.2.1 100) + ((1000 * ((M.1 103)).toInt64) / (j1).toInt64)) - (((((M.2.1 100) + ((1000 * ((M.1 103)).toInt64) / (j1).toInt64)) / 2000) + 200) + ((10000 * ((M.1 104)).toInt64) / (j1).toInt64))) (lv_sub hl [0, 1] rfl) (by rw [F_R_move_j3, if_pos h5])
      · refine lv_lconst (v := 0) hx hb d_R_move_99 (by decide) ?_
        refine lv_goto (tgt := 107) hx hb d_R_move_100 rfl ?_
        exact hJ4 _ 0 (lv_sub hl [0, 1] rfl) (by rw [F_R_move_j3, if_neg h5])
    · refine va_put (D := (dC, dI)) (ci := 10) (v := .long j3) (ty := .long) (C := "CentrifugeUnitModel") (T := xF10) (N := 45) hx hb htt xin10 xT10 xTo10 xNm10 hown hK hP hD hS 0 rfl rfl 11 (by decide) (htt _ tw_790) (fun _ h9 => h9) rfl (by decide +kernel) rfl rfl (Nat.le_of_ble_eq_true rfl) d_R_move_107 (fun H locs hP hD hS => ?_)
      have hP : va_P (dC, dI) xcl [(A 20, .inr (10, [.int (M.1 100), .ref (A 21), .ref (A 22), .ref (A 23), .ref (A 24), .ref (A 25), .int (M.1 101), .ref (A 26), .ref (A 27), .ref (A 28), .int (M.1 102), .long j3, .int (M.1 103), .int (M.1 104), .int (M.1 105), .int (M.1 106), .int (M.1 107), .int (M.1 108), .long (M.2.1 101), .long (M.2.1 102), .long (M.2.1 103), .int (M.1 109), .int (M.1 110), .int (M.1 111), .int (M.1 112), .int (M.1 113), .long (M.2.1 104), .long (M.2.1 105), .long (M.2.1 106), .int (M.1 114), .int (M.1 115), .int (M.1 116), .int (M.1 117), .int (M.1 118), .int (M.1 119), .int (M.1 120), .int (M.1 121), .int (M.1 122), .int (M.1 123), .int (M.1 124), .long (M.2.1 107), .int (M.1 125), .ref (A 29), .ref (A 30), .ref (A 31)])), (A 21, .inl (Z 2, 4, .inl (M.2.2.1 21))), (A 25, .inl (Z 0, 4, .inl (M.2.2.1 25)))] H := hP
      have hD : va_D AA [(A 20, .inr (10, [.int (M.1 100), .ref (A 21), .ref (A 22), .ref (A 23), .ref (A 24), .ref (A 25), .int (M.1 101), .ref (A 26), .ref (A 27), .ref (A 28), .int (M.1 102), .long j3, .int (M.1 103), .int (M.1 104), .int (M.1 105), .int (M.1 106), .int (M.1 107), .int (M.1 108), .long (M.2.1 101), .long (M.2.1 102), .long (M.2.1 103), .int (M.1 109), .int (M.1 110), .int (M.1 111), .int (M.1 112), .int (M.1 113), .long (M.2.1 104), .long (M.2.1 105), .long (M.2.1 106), .int (M.1 114), .int (M.1 115), .int (M.1 116), .int (M.1 117), .int (M.1 118), .int (M.1 119), .int (M.1 120), .int (M.1 121), .int (M.1 122), .int (M.1 123), .int (M.1 124), .long (M.2.1 107), .int (M.1 125), .ref (A 29), .ref (A 30), .ref (A 31)])), (A 21, .inl (Z 2, 4, .inl (M.2.2.1 21))), (A 25, .inl (Z 0, 4, .inl (M.2.2.1 25)))] := hD
      have hP9 := hP.sub (ws' := [(A 20, xc20 Z A (ap_R_move M j3)), (A 21, xc21 Z A (ap_R_move M j3)), (A 25, xc25 Z A (ap_R_move M j3))]) [0, 1, 2] rfl
      have hD9 := hD.sub (ws' := [(A 20, xc20 Z A (ap_R_move M j3)), (A 21, xc21 Z A (ap_R_move M j3)), (A 25, xc25 Z A (ap_R_move M j3))]) [0, 1, 2] (by decide) rfl
      exact W.vret hx hb hr (fun t ht hW => ⟨⟨j3, rfl, (by rw [F_R_move, ← hj1, F_R_move_k2, ← hj3, F_R_move_k4]), xE_at hP9 hK hD9 ht hW⟩, hS.F ht⟩) hS.2.2 d_R_move_110
abbrev bc_R_record : ByteArray := prog_12_method_32_code
def y_R_record : MethodName := ⟨"CentrifugeUnitModel", "record", "(II)J"⟩
theorem d_R_record_0 : decode bc_R_record 0 = .ok (.iload_n 2, 1) := by decide +kernel
theorem d_R_record_1 : decode bc_R_record 1 = .ok (.i2l, 1) := by decide +kernel
theorem d_R_record_2 : decode bc_R_record 2 = .ok (.lconst 0, 1) := by decide +kernel
theorem d_R_record_3 : decode bc_R_record 3 = .ok (.ldc2_w 250, 3) := by decide +kernel
theorem d_R_record_6 : decode bc_R_record 6 = .ok (.invokestatic 79, 3) := by decide +kernel
theorem d_R_record_9 : decode bc_R_record 9 = .ok (.ifCond .ne 7, 3) := by decide +kernel
theorem d_R_record_12 : decode bc_R_record 12 = .ok (.iconst 1, 1) := by decide +kernel
theorem d_R_record_13 : decode bc_R_record 13 = .ok (.goto 4, 3) := by decide +kernel
theorem d_R_record_16 : decode bc_R_record 16 = .ok (.iconst 0, 1) := by decide +kernel
theorem d_R_record_17 : decode bc_R_record 17 = .ok (.istore_n 3, 1) := by decide +kernel
theorem d_R_record_18 : decode bc_R_record 18 = .ok (.iload_n 1, 1) := by decide +kernel
theorem d_R_record_19 : decode bc_R_record 19 = .ok (.iconst (-1), 1) := by decide +kernel
theorem d_R_record_20 : decode bc_R_record 20 = .ok (.if_icmp .eq 30, 3) := by decide +kernel
theorem d_R_record_23 : decode bc_R_record 23 = .ok (.iload_n 1, 1) := by decide +kernel
theorem d_R_record_24 : decode bc_R_record 24 = .ok (.i2l, 1) := by decide +kernel
theorem d_R_record_25 : decode bc_R_record 25 = .ok (.aload_n 0, 1) := by decide +kernel
theorem d_R_record_26 : decode bc_R_record 26 = .ok (.getfield 237, 3) := by decide +kernel
theorem d_R_record_29 : decode bc_R_record 29 = .ok (.bipush 16, 2) := by decide +kernel
theorem d_R_record_31 : decode bc_R_record 31 = .ok (.isub, 1) := by decide +kernel
theorem d_R_record_32 : decode bc_R_record 32 = .ok (.i2l, 1) := by decide +kernel
theorem d_R_record_33 : decode bc_R_record 33 = .ok (.aload_n 0, 1) := by decide +kernel
theorem d_R_record_34 : decode bc_R_record 34 = .ok (.getfield 237, 3) := by decide +kernel
theorem d_R_record_37 : decode bc_R_record 37 = .ok (.iconst 1, 1) := by decide +kernel
theorem d_R_record_38 : decode bc_R_record 38 = .ok (.isub, 1) := by decide +kernel
theorem d_R_record_39 : decode bc_R_record 39 = .ok (.i2l, 1) := by decide +kernel
theorem d_R_record_40 : decode bc_R_record 40 = .ok (.invokestatic 79, 3) := by decide +kernel
theorem d_R_record_43 : decode bc_R_record 43 = .ok (.ifCond .eq 11, 3) := by decide +kernel
theorem d_R_record_46 : decode bc_R_record 46 = .ok (.iload_n 1, 1) := by decide +kernel
theorem d_R_record_47 : decode bc_R_record 47 = .ok (.ifCond .lt 7, 3) := by decide +kernel
theorem d_R_record_50 : decode bc_R_record 50 = .ok (.iconst 1, 1) := by decide +kernel
theorem d_R_record_51 : decode bc_R_record 51 = .ok (.goto 4, 3) := by decide +kernel
theorem d_R_record_54 : decode bc_R_record 54 = .ok (.iconst 0, 1) := by decide +kernel
theorem d_R_record_55 : decode bc_R_record 55 = .ok (.istore 4, 2) := by decide +kernel
theorem d_R_record_57 : decode bc_R_record 57 = .ok (.aload_n 0, 1) := by decide +kernel
theorem d_R_record_58 : decode bc_R_record 58 = .ok (.iload_n 3, 1) := by decide +kernel
theorem d_R_record_59 : decode bc_R_record 59 = .ok (.iload_n 3, 1) := by decide +kernel
theorem d_R_record_60 : decode bc_R_record 60 = .ok (.ifCond .ne 12, 3) := by decide +kernel
theorem d_R_record_63 : decode bc_R_record 63 = .ok (.iload 4, 2) := by decide +kernel
theorem d_R_record_65 : decode bc_R_record 65 = .ok (.ifCond .ne 7, 3) := by decide +kernel
theorem d_R_record_68 : decode bc_R_record 68 = .ok (.iconst 1, 1) := by decide +kernel
theorem d_R_record_69 : decode bc_R_record 69 = .ok (.goto 4, 3) := by decide +kernel
theorem d_R_record_72 : decode bc_R_record 72 = .ok (.iconst 0, 1) := by decide +kernel
theorem d_R_record_73 : decode bc_R_record 73 = .ok (.invokevirtual 98, 3) := by decide +kernel
theorem d_R_record_76 : decode bc_R_record 76 = .ok (.ifCond .eq 5, 3) := by decide +kernel
theorem d_R_record_79 : decode bc_R_record 79 = .ok (.lconst 0, 1) := by decide +kernel
theorem d_R_record_80 : decode bc_R_record 80 = .ok (.lreturn, 1) := by decide +kernel
theorem d_R_record_81 : decode bc_R_record 81 = .ok (.iload_n 1, 1) := by decide +kernel
theorem d_R_record_82 : decode bc_R_record 82 = .ok (.ifCond .ge 9, 3) := by decide +kernel
theorem d_R_record_85 : decode bc_R_record 85 = .ok (.aload_n 0, 1) := by decide +kernel
theorem d_R_record_86 : decode bc_R_record 86 = .ok (.getfield 237, 3) := by decide +kernel
theorem d_R_record_89 : decode bc_R_record 89 = .ok (.i2l, 1) := by decide +kernel
theorem d_R_record_90 : decode bc_R_record 90 = .ok (.lreturn, 1) := by decide +kernel
theorem d_R_record_91 : decode bc_R_record 91 = .ok (.iload_n 2, 1) := by decide +kernel
theorem d_R_record_92 : decode bc_R_record 92 = .ok (.ifCond .ne 15, 3) := by decide +kernel
theorem d_R_record_95 : decode bc_R_record 95 = .ok (.aload_n 0, 1) := by decide +kernel
theorem d_R_record_96 : decode bc_R_record 96 = .ok (.getfield 58, 3) := by decide +kernel
theorem d_R_record_99 : decode bc_R_record 99 = .ok (.iload_n 1, 1) := by decide +kernel
theorem d_R_record_100 : decode bc_R_record 100 = .ok (.bipush 16, 2) := by decide +kernel
theorem d_R_record_102 : decode bc_R_record 102 = .ok (.irem, 1) := by decide +kernel
theorem d_R_record_103 : decode bc_R_record 103 = .ok (.laload, 1) := by decide +kernel
theorem d_R_record_104 : decode bc_R_record 104 = .ok (.goto 29, 3) := by decide +kernel
theorem d_R_record_107 : decode bc_R_record 107 = .ok (.iload_n 2, 1) := by decide +kernel
theorem d_R_record_108 : decode bc_R_record 108 = .ok (.iconst 1, 1) := by decide +kernel
theorem d_R_record_109 : decode bc_R_record 109 = .ok (.if_icmp .ne 15, 3) := by decide +kernel
theorem d_R_record_112 : decode bc_R_record 112 = .ok (.aload_n 0, 1) := by decide +kernel
theorem d_R_record_113 : decode bc_R_record 113 = .ok (.getfield 62, 3) := by decide +kernel
theorem d_R_record_116 : decode bc_R_record 116 = .ok (.iload_n 1, 1) := by decide +kernel
theorem d_R_record_117 : decode bc_R_record 117 = .ok (.bipush 16, 2) := by decide +kernel
theorem d_R_record_119 : decode bc_R_record 119 = .ok (.irem, 1) := by decide +kernel
theorem d_R_record_120 : decode bc_R_record 120 = .ok (.laload, 1) := by decide +kernel
theorem d_R_record_121 : decode bc_R_record 121 = .ok (.goto 12, 3) := by decide +kernel
theorem d_R_record_124 : decode bc_R_record 124 = .ok (.aload_n 0, 1) := by decide +kernel
theorem d_R_record_125 : decode bc_R_record 125 = .ok (.getfield 65, 3) := by decide +kernel
theorem d_R_record_128 : decode bc_R_record 128 = .ok (.iload_n 1, 1) := by decide +kernel
theorem d_R_record_129 : decode bc_R_record 129 = .ok (.bipush 16, 2) := by decide +kernel
theorem d_R_record_131 : decode bc_R_record 131 = .ok (.irem, 1) := by decide +kernel
theorem d_R_record_132 : decode bc_R_record 132 = .ok (.laload, 1) := by decide +kernel
theorem d_R_record_133 : decode bc_R_record 133 = .ok (.lreturn, 1) := by decide +kernel
abbrev ap_R_record (M : XM) (u : Int32) : XM := ((va_up M.1 100 u), M.2)
def F_R_record_k9 (M : XM) (a1 : Int32) (a2 : Int32) (z1 : Int32) (j2 : Int32) (j4 : Int32) (j6 : Int32) (p10 : Int32 × Int32) : Int64 × Int32 := (if p10.1 = 0 then (if 0 ≤ a1 then (if a2 = 0 then (((M.2.2.2 29) ((a1 - a1 / 16 * 16)).toNatClampNeg), (p10.2)) else (if a2 = 1 then (((M.2.2.2 30) ((a1 - a1 / 16 * 16)).toNatClampNeg), (p10.2)) else (((M.2.2.2 31) ((a1 - a1 / 16 * 16)).toNatClampNeg), (p10.2)))) else (((M.1 125)).toInt64, (p10.2))) else (0, (p10.2)))
def F_R_record_k8 (M : XM) (a1 : Int32) (a2 : Int32) (z1 : Int32) (j2 : Int32) (j4 : Int32) (j6 : Int32) : Int64 × Int32 := (F_R_record_k9 M a1 a2 z1 j2 j4 j6 (F_R_throwing M j2 j6))
def F_R_record_j7 (M : XM) (a1 : Int32) (a2 : Int32) (z1 : Int32) (j2 : Int32) (j4 : Int32) : Int32 := (if j2 = 0 then (if j4 = 0 then 1 else 0) else 0)
def F_R_record_k6 (M : XM) (a1 : Int32) (a2 : Int32) (z1 : Int32) (j2 : Int32) (j4 : Int32) : Int64 × Int32 := (F_R_record_k8 M a1 a2 z1 j2 j4 (F_R_record_j7 M a1 a2 z1 j2 j4))
def F_R_record_k4 (M : XM) (a1 : Int32) (a2 : Int32) (z1 : Int32) (j2 : Int32) (z18 : Int32) : Int32 := (if z18 = 0 then 0 else (if a1 < 0 then 0 else 1))
def F_R_record_j5 (M : XM) (a1 : Int32) (a2 : Int32) (z1 : Int32) (j2 : Int32) : Int32 := (if a1 = (-1) then 1 else (F_R_record_k4 M a1 a2 z1 j2 (F_R_in M (a1).toInt64 (((M.1 125) - 16)).toInt64 (((M.1 125) - 1)).toInt64)))
def F_R_record_k3 (M : XM) (a1 : Int32) (a2 : Int32) (z1 : Int32) (j2 : Int32) : Int64 × Int32 := (F_R_record_k6 M a1 a2 z1 j2 (F_R_record_j5 M a1 a2 z1 j2))
def F_R_record_j2 (M : XM) (a1 : Int32) (a2 : Int32) (z1 : Int32) : Int32 := (if z1 = 0 then 1 else 0)
def F_R_record_k1 (M : XM) (a1 : Int32) (a2 : Int32) (z1 : Int32) : Int64 × Int32 := (F_R_record_k3 M a1 a2 z1 (F_R_record_j2 M a1 a2 z1))
def F_R_record (M : XM) (a1 : Int32) (a2 : Int32) : Int64 × Int32 := (F_R_record_k1 M a1 a2 (F_R_in M (a2).toInt64 0 2))
set_option maxHeartbeats 4000000 in
set_option maxRecDepth 100000 in
theorem c_R_record (l : Launch) (dC : Nat → ClassId) (dI : Nat → Nat → Nat) (Z : Nat → ClassId) (A : Nat → Nat) (sz : Nat) (M : XM) (a1 : Int32) (a2 : Int32) : Met l y_R_record (.code y_R_record bc_R_record 5 (some .long) :: xw) ({ frames := 1, cells := 0, slots := 0, locals := 25 }) (va_Pc [.ref (A 20), .int a1, .int a2] (xB (dC, dI) xcl (xty Z) sz [(A 20, xc20 Z A M), (A 29, xc29 Z A M), (A 30, xc30 Z A M), (A 31, xc31 Z A M)])) (va_Ql (fun (r : Int64) (u : Int32) => (r, u) = F_R_record M a1 a2) (fun u => xE (dC, dI) xcl (xty Z) (va_A [(A 20, xc20 Z A M), (A 29, xc29 Z A M), (A 30, xc30 Z A M), (A 31, xc31 Z A M)] sz) [(A 20, xc20 Z A (ap_R_record M u)), (A 29, xc29 Z A (ap_R_record M u)), (A 30, xc30 Z A (ap_R_record M u)), (A 31, xc31 Z A (ap_R_record M u))]) (va_A [(A 20, xc20 Z A M), (A 29, xc29 Z A M), (A 30, xc30 Z A M), (A 31, xc31 Z A M)] sz)) 0 0 (va_A [(A 20, xc20 Z A M), (A 29, xc29 Z A M), (A 30, xc30 Z A M), (A 31, xc31 Z A M)] sz) := by
  refine Met.ofW (cc := bc_R_record) (maxL := 5) (ret := (some .long)) (by decide) rfl ?_
  intro p e s m args below meth c s₁ B hml hv
  obtain ⟨rfl, hsz, hP, hK, hD0, hq⟩ := hv
  have hx := B.exec
  have hb := B.bytes
  have hr := B.returns
  have hts := atoms_spec (ws := (.code y_R_record bc_R_record 5 (some .long) :: xw)) B.pre
  have htt : ∀ w ∈ xw, w.before _ s = true := fun w h => hts w (List.mem_cons_of_mem _ h)
  have hown : s.vm.findClass "CentrifugeUnitModel" = some m.cls := findClass_of_methodNamed B.named
  have hlocks := B.notSynchronized
  subst hsz
  have hD := hD0.self (sz := s.heap.size)
  generalize hAe : va_A [(A 20, xc20 Z A M), (A 29, xc29 Z A M), (A 30, xc30 Z A M), (A 31, xc31 Z A M)] s.heap.size = AA at hD ⊢
  have hA : ∀ q : Nat, s.heap.size ≤ q → AA q := fun q h => by rw [← hAe]; exact Or.inr h
  have hS : va_S AA s.heap s.heap [] := va_S.rf
  have hP : va_P (dC, dI) xcl [(A 20, .inr (10, [.int (M.1 100), .ref (A 21), .ref (A 22), .ref (A 23), .ref (A 24), .ref (A 25), .int (M.1 101), .ref (A 26), .ref (A 27), .ref (A 28), .int (M.1 102), .long (M.2.1 100), .int (M.1 103), .int (M.1 104), .int (M.1 105), .int (M.1 106), .int (M.1 107), .int (M.1 108), .long (M.2.1 101), .long (M.2.1 102), .long (M.2.1 103), .int (M.1 109), .int (M.1 110), .int (M.1 111), .int (M.1 112), .int (M.1 113), .long (M.2.1 104), .long (M.2.1 105), .long (M.2.1 106), .int (M.1 114), .int (M.1 115), .int (M.1 116), .int (M.1 117), .int (M.1 118), .int (M.1 119), .int (M.1 120), .int (M.1 121), .int (M.1 122), .int (M.1 123), .int (M.1 124), .long (M.2.1 107), .int (M.1 125), .ref (A 29), .ref (A 30), .ref (A 31)])), (A 29, .inl (Z 1, 16, .inr (.inl (M.2.2.2 29)))), (A 30, .inl (Z 1, 16, .inr (.inl (M.2.2.2 30)))), (A 31, .inl (Z 1, 16, .inr (.inl (M.2.2.2 31))))] s.heap := hP
  have hD : va_D AA [(A 20, .inr (10, [.int (M.1 100), .ref (A 21), .ref (A 22), .ref (A 23), .ref (A 24), .ref (A 25), .int (M.1 101), .ref (A 26), .ref (A 27), .ref (A 28), .int (M.1 102), .long (M.2.1 100), .int (M.1 103), .int (M.1 104), .int (M.1 105), .int (M.1 106), .int (M.1 107), .int (M.1 108), .long (M.2.1 101), .long (M.2.1 102), .long (M.2.1 103), .int (M.1 109), .int (M.1 110), .int (M.1 111), .int (M.1 112), .int (M.1 113), .long (M.2.1 104), .long (M.2.1 105), .long (M.2.1 106), .int (M.1 114), .int (M.1 115), .int (M.1 116), .int (M.1 117), .int (M.1 118), .int (M.1 119), .int (M.1 120), .int (M.1 121), .int (M.1 122), .int (M.1 123), .int (M.1 124), .long (M.2.1 107), .int (M.1 125), .ref (A 29), .ref (A 30), .ref (A 31)])), (A 29, .inl (Z 1, 16, .inr (.inl (M.2.2.2 29)))), (A 30, .inl (Z 1, 16, .inr (.inl (M.2.2.2 30)))), (A 31, .inl (Z 1, 16, .inr (.inl (M.2.2.2 31))))] := hD
  have hl := lv_entry ([.ref (A 20), .int a1, .int a2]) (n := 5) (Nat.le_of_ble_eq_true rfl)
  rw [lg_entry_eq]
  generalize (lg_sl ([.ref (A 20), .int a1, .int a2]) ++ List.replicate (5 - (lg_sl ([.ref (A 20), .int a1, .int a2])).length) Slot.unset).toArray = ls at hl ⊢
  have hl : lv_has ls 5 [(0, .ref (A 20)), (1, .int a1), (2, .int a2)] := hl
  refine lv_iload_n hx hb d_R_record_0 rfl (lv_at hl 2 rfl) ?_
  refine lv_i2l (v := (a2).toInt64) hx hb d_R_record_1 rfl ?_
  refine lv_lconst (v := 0) hx hb d_R_record_2 (by decide) ?_
  refine lv_ldc2 (v := 2) hx hb hown (htt _ tw_1066) d_R_record_3 ?_
  have hPc := hP.sub (ws' := []) [] rfl
  have hDc := hD.sub (ws' := []) [] (by decide) rfl
  refine xk_p (va_runS (As := [.long (a2).toInt64, .long 0, .long 2]) (rest := []) ⟨hx, hb, hml, hown, hts⟩ (c_R_in l dC dI Z A _ M (a2).toInt64 0 2) (va_cwS 3 hts (xw_S _ tw_925 tw_926 tw_12 tw_927) rfl rfl rfl (by decide +kernel) ⟨Nat.le_of_ble_eq_true rfl, Nat.le_of_ble_eq_true rfl⟩) ⟨xB_blind, fun U hU hW => ⟨rfl, xB_at hPc hK hDc hq U hU hW⟩⟩ rfl rfl hl.1 rfl (lv_room (Nat.le_of_ble_eq_true rfl)) d_R_record_6 ⟨Nat.le_of_ble_eq_true rfl, Nat.le_of_ble_eq_true rfl⟩) ?_
  refine lv_topi (fun z1 hz1 => ?_)
  refine xj_p 5 17 (fun q9 : Int32 => [(0, .ref (A 20)), (1, .int a1), (2, .int a2)]) (fun q9 : Int32 => [.int q9]) (fun q9 : Int32 => q9 = F_R_record_j2 M a1 a2 z1) (fun hJ3 => ?_) (fun ls j2 hl hj2 => ?_)
  · refine lv_if_ne (tgt := 16) hx hb d_R_record_9 rfl (fun h21 => ?_) (fun h21 => ?_)
    · refine lv_iconst (v := 0) hx hb d_R_record_16 (by decide) ?_
      exact hJ3 _ 0 (lv_sub hl [0, 1, 2] rfl) (by rw [F_R_record_j2, if_neg h21])
    · refine lv_iconst (v := 1) hx hb d_R_record_12 (by decide) ?_
      refine lv_goto (tgt := 17) hx hb d_R_record_13 rfl ?_
      exact hJ3 _ 1 (lv_sub hl [0, 1, 2] rfl) (by rw [F_R_record_j2, if_pos h21])
  · refine lv_istore_n (lv' := [(3, .int j2), (0, .ref (A 20)), (1, .int a1), (2, .int a2)]) hx hb d_R_record_17 rfl hl (by decide) rfl (fun ls hl => ?_)
    refine lv_iload_n hx hb d_R_record_18 rfl (lv_at hl 2 rfl) ?_
    refine lv_iconst (v := (-1)) hx hb d_R_record_19 (by decide) ?_
    refine xj_p 5 55 (fun q9 : Int32 => [(3, .int j2), (0, .ref (A 20)), (1, .int a1), (2, .int a2)]) (fun q9 : Int32 => [.int q9]) (fun q9 : Int32 => q9 = F_R_record_j5 M a1 a2 z1 j2) (fun hJ5 => ?_) (fun ls j4 hl hj4 => ?_)
    · refine lv_icmp_eq (tgt := 50) hx hb d_R_record_20 rfl (fun h17 => ?_) (fun h17 => ?_)
      · refine lv_iconst (v := 1) hx hb d_R_record_50 (by decide) ?_
        refine lv_goto (tgt := 55) hx hb d_R_record_51 rfl ?_
        exact hJ5 _ 1 (lv_sub hl [0, 1, 2, 3] rfl) (by rw [F_R_record_j5, if_pos h17])
      · refine lv_iload_n hx hb d_R_record_23 rfl (lv_at hl 2 rfl) ?_
        refine lv_i2l (v := (a1).toInt64) hx hb d_R_record_24 rfl ?_
        refine lv_aload_n hx hb d_R_record_25 rfl (lv_at hl 1 rfl) ?_
        refine va_get (D := (dC, dI)) (ci := 10) (v := .int (M.1 125)) (C := "CentrifugeUnitModel") (T := xF10) (N := 45) hx hb htt xin10 hown hK hP 0 rfl rfl 41 (by decide) (htt _ tw_820) (fun _ h9 => h9) rfl d_R_record_26 ?_
        refine lv_bipush (v := 16) hx hb d_R_record_29 (by decide) ?_
        refine lv_isub hx hb d_R_record_31 ?_
        refine lv_i2l (v := (((M.1 125) - 16)).toInt64) hx hb d_R_record_32 rfl ?_
        refine lv_aload_n hx hb d_R_record_33 rfl (lv_at hl 1 rfl) ?_
        refine va_get (D := (dC, dI)) (ci := 10) (v := .int (M.1 125)) (C := "CentrifugeUnitModel") (T := xF10) (N := 45) hx hb htt xin10 hown hK hP 0 rfl rfl 41 (by decide) (htt _ tw_820) (fun _ h9 => h9) rfl d_R_record_34 ?_
        refine lv_iconst (v := 1) hx hb d_R_record_37 (by decide) ?_
        refine lv_isub hx hb d_R_record_38 ?_
        refine lv_i2l (v := (((M.1 125) - 1)).toInt64) hx hb d_R_record_39 rfl ?_
        have hPc := hP.sub (ws' := []) [] rfl
        have hDc := hD.sub (ws' := []) [] (by decide) rfl
        refine xk_p (va_runS (As := [.long (a1).toInt64, .long (((M.1 125) - 16)).toInt64, .long (((M.1 125) - 1)).toInt64]) (rest := []) ⟨hx, hb, hml, hown, hts⟩ (c_R_in l dC dI Z A _ M (a1).toInt64 (((M.1 125) - 16)).toInt64 (((M.1 125) - 1)).toInt64) (va_cwS 3 hts (xw_S _ tw_925 tw_926 tw_12 tw_927) rfl rfl rfl (by decide +kernel) ⟨Nat.le_of_ble_eq_true rfl, Nat.le_of_ble_eq_true rfl⟩) ⟨xB_blind, fun U hU hW => ⟨rfl, xB_at hPc hK hDc hq U hU hW⟩⟩ rfl rfl hl.1 rfl (lv_room (Nat.le_of_ble_eq_true rfl)) d_R_record_40 ⟨Nat.le_of_ble_eq_true rfl, Nat.le_of_ble_eq_true rfl⟩) ?_
        refine lv_topi (fun z18 hz18 => ?_)
        refine lv_if_eq (tgt := 54) hx hb d_R_record_43 rfl (fun h19 => ?_) (fun h19 => ?_)
        · refine lv_iconst (v := 0) hx hb d_R_record_54 (by decide) ?_
          exact hJ5 _ 0 (lv_sub hl [0, 1, 2, 3] rfl) (by rw [F_R_record_j5, if_neg h17, ← hz18, F_R_record_k4, if_pos h19])
        · refine lv_iload_n hx hb d_R_record_46 rfl (lv_at hl 2 rfl) ?_
          refine lv_if_lt (tgt := 54) hx hb d_R_record_47 rfl (fun h20 => ?_) (fun h20 => ?_)
          · refine lv_iconst (v := 0) hx hb d_R_record_54 (by decide) ?_
            exact hJ5 _ 0 (lv_sub hl [0, 1, 2, 3] rfl) (by rw [F_R_record_j5, if_neg h17, ← hz18, F_R_record_k4, if_neg h19, if_pos h20])
          · refine lv_iconst (v := 1) hx hb d_R_record_50 (by decide) ?_
            refine lv_goto (tgt := 55) hx hb d_R_record_51 rfl ?_
            exact hJ5 _ 1 (lv_sub hl [0, 1, 2, 3] rfl) (by rw [F_R_record_j5, if_neg h17, ← hz18, F_R_record_k4, if_neg h19, if_neg h20])
    · refine lv_istore (lv' := [(4, .int j4), (3, .int j2), (0, .ref (A 20)), (1, .int a1), (2, .int a2)]) hx hb d_R_record_55 hl (by decide) rfl (fun ls hl => ?_)
      refine lv_aload_n hx hb d_R_record_57 rfl (lv_at hl 2 rfl) ?_
      refine lv_iload_n hx hb d_R_record_58 rfl (lv_at hl 1 rfl) ?_
      refine lv_iload_n hx hb d_R_record_59 rfl (lv_at hl 1 rfl) ?_
      refine xj_p 5 73 (fun q9 : Int32 => [(4, .int j4), (3, .int j2), (0, .ref (A 20)), (1, .int a1), (2, .int a2)]) (fun q9 : Int32 => [.int q9, .int j2, .ref (A 20)]) (fun q9 : Int32 => q9 = F_R_record_j7 M a1 a2 z1 j2 j4) (fun hJ7 => ?_) (fun ls j6 hl hj6 => ?_)
      · refine lv_if_ne (tgt := 72) hx hb d_R_record_60 rfl (fun h15 => ?_) (fun h15 => ?_)
        · refine lv_iconst (v := 0) hx hb d_R_record_72 (by decide) ?_
          exact hJ7 _ 0 (lv_sub hl [0, 1, 2, 3, 4] rfl) (by rw [F_R_record_j7, if_neg h15])
        · refine lv_iload hx hb d_R_record_63 (lv_at hl 0 rfl) ?_
          refine lv_if_ne (tgt := 72) hx hb d_R_record_65 rfl (fun h16 => ?_) (fun h16 => ?_)
          · refine lv_iconst (v := 0) hx hb d_R_record_72 (by decide) ?_
            exact hJ7 _ 0 (lv_sub hl [0, 1, 2, 3, 4] rfl) (by rw [F_R_record_j7, if_pos h15, if_neg h16])
          · refine lv_iconst (v := 1) hx hb d_R_record_68 (by decide) ?_
            refine lv_goto (tgt := 73) hx hb d_R_record_69 rfl ?_
            exact hJ7 _ 1 (lv_sub hl [0, 1, 2, 3, 4] rfl) (by rw [F_R_record_j7, if_pos h15, if_pos h16])
      · have hPc := hP.sub (ws' := [(A 20, xc20 Z A M)]) [0] rfl
        have hDc := hD.sub (ws' := [(A 20, xc20 Z A M)]) [0] (by decide) rfl
        refine xk_i (wc := [(A 20, xc20 Z A M)]) (wr := [(A 29, .inl (Z 1, 16, .inr (.inl (M.2.2.2 29)))), (A 30, .inl (Z 1, 16, .inr (.inl (M.2.2.2 30)))), (A 31, .inl (Z 1, 16, .inr (.inl (M.2.2.2 31))))]) (va_runV (As := [.int j2, .int j6]) (rest := []) ⟨hx, hb, hml, hown, hts⟩ (c_R_throwing l dC dI Z A _ M j2 j6) (cwV 2 hts (xw_V _ tw_934 tw_936 tp_12 tw_12 tw_937) rfl rfl rfl (by decide +kernel) ⟨Nat.le_of_ble_eq_true rfl, Nat.le_of_ble_eq_true rfl⟩) ⟨xB_blind, va_recv (q0 := 0) (ci := 10) hK hP rfl rfl, fun U hU hW => ⟨rfl, xB_at hPc hK hDc hq U hU hW⟩⟩ rfl rfl hl.1 rfl (lv_room (Nat.le_of_ble_eq_true rfl)) d_R_record_73 ⟨Nat.le_of_ble_eq_true rfl, Nat.le_of_ble_eq_true rfl⟩) hP hD hS hA [0] [1, 2, 3] rfl rfl (by decide) (by decide) (fun r9 u8 H locs hu8 hP hD hS => ?_)
        obtain ⟨p10, rfl, rfl⟩ : ∃ z : Int32 × Int32, r9 = z.1 ∧ u8 = z.2 := ⟨(r9, u8), rfl, rfl⟩
        replace hu8 : p10 = (F_R_throwing M j2 j6) := hu8
        have hP : va_P (dC, dI) xcl [(A 29, .inl (Z 1, 16, .inr (.inl (M.2.2.2 29)))), (A 30, .inl (Z 1, 16, .inr (.inl (M.2.2.2 30)))), (A 31, .inl (Z 1, 16, .inr (.inl (M.2.2.2 31)))), (A 20, .inr (10, [.int (p10.2), .ref (A 21), .ref (A 22), .ref (A 23), .ref (A 24), .ref (A 25), .int (M.1 101), .ref (A 26), .ref (A 27), .ref (A 28), .int (M.1 102), .long (M.2.1 100), .int (M.1 103), .int (M.1 104), .int (M.1 105), .int (M.1 106), .int (M.1 107), .int (M.1 108), .long (M.2.1 101), .long (M.2.1 102), .long (M.2.1 103), .int (M.1 109), .int (M.1 110), .int (M.1 111), .int (M.1 112), .int (M.1 113), .long (M.2.1 104), .long (M.2.1 105), .long (M.2.1 106), .int (M.1 114), .int (M.1 115), .int (M.1 116), .int (M.1 117), .int (M.1 118), .int (M.1 119), .int (M.1 120), .int (M.1 121), .int (M.1 122), .int (M.1 123), .int (M.1 124), .long (M.2.1 107), .int (M.1 125), .ref (A 29), .ref (A 30), .ref (A 31)]))] H := hP
        have hD : va_D AA [(A 29, .inl (Z 1, 16, .inr (.inl (M.2.2.2 29)))), (A 30, .inl (Z 1, 16, .inr (.inl (M.2.2.2 30)))), (A 31, .inl (Z 1, 16, .inr (.inl (M.2.2.2 31)))), (A 20, .inr (10, [.int (p10.2), .ref (A 21), .ref (A 22), .ref (A 23), .ref (A 24), .ref (A 25), .int (M.1 101), .ref (A 26), .ref (A 27), .ref (A 28), .int (M.1 102), .long (M.2.1 100), .int (M.1 103), .int (M.1 104), .int (M.1 105), .int (M.1 106), .int (M.1 107), .int (M.1 108), .long (M.2.1 101), .long (M.2.1 102), .long (M.2.1 103), .int (M.1 109), .int (M.1 110), .int (M.1 111), .int (M.1 112), .int (M.1 113), .long (M.2.1 104), .long (M.2.1 105), .long (M.2.1 106), .int (M.1 114), .int (M.1 115), .int (M.1 116), .int (M.1 117), .int (M.1 118), .int (M.1 119), .int (M.1 120), .int (M.1 121), .int (M.1 122), .int (M.1 123), .int (M.1 124), .long (M.2.1 107), .int (M.1 125), .ref (A 29), .ref (A 30), .ref (A 31)]))] := hD
        refine lv_if_eq (tgt := 81) hx hb d_R_record_76 rfl (fun h11 => ?_) (fun h11 => ?_)
        · refine lv_iload_n hx hb d_R_record_81 rfl (lv_at hl 3 rfl) ?_
          refine lv_if_ge (tgt := 91) hx hb d_R_record_82 rfl (fun h12 => ?_) (fun h12 => ?_)
          · refine lv_iload_n hx hb d_R_record_91 rfl (lv_at hl 4 rfl) ?_
            refine lv_if_ne (tgt := 107) hx hb d_R_record_92 rfl (fun h13 => ?_) (fun h13 => ?_)
            · refine lv_iload_n hx hb d_R_record_107 rfl (lv_at hl 4 rfl) ?_
              refine lv_iconst (v := 1) hx hb d_R_record_108 (by decide) ?_
              refine lv_icmp_ne (tgt := 124) hx hb d_R_record_109 rfl (fun h14 => ?_) (fun h14 => ?_)
              · refine lv_aload_n hx hb d_R_record_124 rfl (lv_at hl 2 rfl) ?_
                refine va_get (D := (dC, dI)) (ci := 10) (v := .ref (A 31)) (C := "CentrifugeUnitModel") (T := xF10) (N := 45) hx hb htt xin10 hown hK hP 3 rfl rfl 44 (by decide) (htt _ tw_823) (fun _ h9 => h9) rfl d_R_record_125 ?_
                refine lv_iload_n hx hb d_R_record_128 rfl (lv_at hl 3 rfl) ?_
                refine lv_bipush (v := 16) hx hb d_R_record_129 (by decide) ?_
                refine lv_irem hx hb d_R_record_131 (by decide) ?_
                refine va_lald (D := (dC, dI)) hx hb hK hP 2 1 rfl rfl (xrm16 (by assumption)) d_R_record_132 ?_
                have hP9 := hP.sub (ws' := [(A 20, xc20 Z A (ap_R_record M (p10.2))), (A 29, xc29 Z A (ap_R_record M (p10.2))), (A 30, xc30 Z A (ap_R_record M (p10.2))), (A 31, xc31 Z A (ap_R_record M (p10.2)))]) [3, 0, 1, 2] rfl
                have hD9 := hD.sub (ws' := [(A 20, xc20 Z A (ap_R_record M (p10.2))), (A 29, xc29 Z A (ap_R_record M (p10.2))), (A 30, xc30 Z A (ap_R_record M (p10.2))), (A 31, xc31 Z A (ap_R_record M (p10.2)))]) [3, 0, 1, 2] (by decide) rfl
                exact W.lret hx hb hr (fun t ht hW => ⟨⟨((M.2.2.2 31) ((a1 - a1 / 16 * 16)).toNatClampNeg), (p10.2), rfl, (by rw [F_R_record, ← hz1, F_R_record_k1, ← hj2, F_R_record_k3, ← hj4, F_R_record_k6, ← hj6, F_R_record_k8, ← hu8, F_R_record_k9, if_pos h11, if_pos h12, if_neg h13, if_neg h14]), xE_at hP9 hK hD9 ht hW⟩, hS.F ht⟩) hS.2.2 d_R_record_133
              · refine lv_aload_n hx hb d_R_record_112 rfl (lv_at hl 2 rfl) ?_
                refine va_get (D := (dC, dI)) (ci := 10) (v := .ref (A 30)) (C := "CentrifugeUnitModel") (T := xF10) (N := 45) hx hb htt xin10 hown hK hP 3 rfl rfl 43 (by decide) (htt _ tw_822) (fun _ h9 => h9) rfl d_R_record_113 ?_
                refine lv_iload_n hx hb d_R_record_116 rfl (lv_at hl 3 rfl) ?_
                refine lv_bipush (v := 16) hx hb d_R_record_117 (by decide) ?_
                refine lv_irem hx hb d_R_record_119 (by decide) ?_
                refine va_lald (D := (dC, dI)) hx hb hK hP 1 1 rfl rfl (xrm16 (by assumption)) d_R_record_120 ?_
                refine lv_goto (tgt := 133) hx hb d_R_record_121 rfl ?_
                have hP9 := hP.sub (ws' := [(A 20, xc20 Z A (ap_R_record M (p10.2))), (A 29, xc29 Z A (ap_R_record M (p10.2))), (A 30, xc30 Z A (ap_R_record M (p10.2))), (A 31, xc31 Z A (ap_R_record M (p10.2)))]) [3, 0, 1, 2] rfl
                have hD9 := hD.sub (ws' := [(A 20, xc20 Z A (ap_R_record M (p10.2))), (A 29, xc29 Z A (ap_R_record M (p10.2))), (A 30, xc30 Z A (ap_R_record M (p10.2))), (A 31, xc31 Z A (ap_R_record M (p10.2)))]) [3, 0, 1, 2] (by decide) rfl
                exact W.lret hx hb hr (fun t ht hW => ⟨⟨((M.2.2.2 30) ((a1 - a1 / 16 * 16)).toNatClampNeg), (p10.2), rfl, (by rw [F_R_record, ← hz1, F_R_record_k1, ← hj2, F_R_record_k3, ← hj4, F_R_record_k6, ← hj6, F_R_record_k8, ← hu8, F_R_record_k9, if_pos h11, if_pos h12, if_neg h13, if_pos h14]), xE_at hP9 hK hD9 ht hW⟩, hS.F ht⟩) hS.2.2 d_R_record_133
            · refine lv_aload_n hx hb d_R_record_95 rfl (lv_at hl 2 rfl) ?_
              refine va_get (D := (dC, dI)) (ci := 10) (v := .ref (A 29)) (C := "CentrifugeUnitModel") (T := xF10) (N := 45) hx hb htt xin10 hown hK hP 3 rfl rfl 42 (by decide) (htt _ tw_821) (fun _ h9 => h9) rfl d_R_record_96 ?_
              refine lv_iload_n hx hb d_R_record_99 rfl (lv_at hl 3 rfl) ?_
              refine lv_bipush (v := 16) hx hb d_R_record_100 (by decide) ?_
              refine lv_irem hx hb d_R_record_102 (by decide) ?_
              refine va_lald (D := (dC, dI)) hx hb hK hP 0 1 rfl rfl (xrm16 (by assumption)) d_R_record_103 ?_
              refine lv_goto (tgt := 133) hx hb d_R_record_104 rfl ?_
              have hP9 := hP.sub (ws' := [(A 20, xc20 Z A (ap_R_record M (p10.2))), (A 29, xc29 Z A (ap_R_record M (p10.2))), (A 30, xc30 Z A (ap_R_record M (p10.2))), (A 31, xc31 Z A (ap_R_record M (p10.2)))]) [3, 0, 1, 2] rfl
              have hD9 := hD.sub (ws' := [(A 20, xc20 Z A (ap_R_record M (p10.2))), (A 29, xc29 Z A (ap_R_record M (p10.2))), (A 30, xc30 Z A (ap_R_record M (p10.2))), (A 31, xc31 Z A (ap_R_record M (p10.2)))]) [3, 0, 1, 2] (by decide) rfl
              exact W.lret hx hb hr (fun t ht hW => ⟨⟨((M.2.2.2 29) ((a1 - a1 / 16 * 16)).toNatClampNeg), (p10.2), rfl, (by rw [F_R_record, ← hz1, F_R_record_k1, ← hj2, F_R_record_k3, ← hj4, F_R_record_k6, ← hj6, F_R_record_k8, ← hu8, F_R_record_k9, if_pos h11, if_pos h12, if_pos h13]), xE_at hP9 hK hD9 ht hW⟩, hS.F ht⟩) hS.2.2 d_R_record_133
          · refine lv_aload_n hx hb d_R_record_85 rfl (lv_at hl 2 rfl) ?_
            refine va_get (D := (dC, dI)) (ci := 10) (v := .int (M.1 125)) (C := "CentrifugeUnitModel") (T := xF10) (N := 45) hx hb htt xin10 hown hK hP 3 rfl rfl 41 (by decide) (htt _ tw_820) (fun _ h9 => h9) rfl d_R_record_86 ?_
            refine lv_i2l (v := ((M.1 125)).toInt64) hx hb d_R_record_89 rfl ?_
            have hP9 := hP.sub (ws' := [(A 20, xc20 Z A (ap_R_record M (p10.2))), (A 29, xc29 Z A (ap_R_record M (p10.2))), (A 30, xc30 Z A (ap_R_record M (p10.2))), (A 31, xc31 Z A (ap_R_record M (p10.2)))]) [3, 0, 1, 2] rfl
            have hD9 := hD.sub (ws' := [(A 20, xc20 Z A (ap_R_record M (p10.2))), (A 29, xc29 Z A (ap_R_record M (p10.2))), (A 30, xc30 Z A (ap_R_record M (p10.2))), (A 31, xc31 Z A (ap_R_record M (p10.2)))]) [3, 0, 1, 2] (by decide) rfl
            exact W.lret hx hb hr (fun t ht hW => ⟨⟨((M.1 125)).toInt64, (p10.2), rfl, (by rw [F_R_record, ← hz1, F_R_record_k1, ← hj2, F_R_record_k3, ← hj4, F_R_record_k6, ← hj6, F_R_record_k8, ← hu8, F_R_record_k9, if_pos h11, if_neg h12]), xE_at hP9 hK hD9 ht hW⟩, hS.F ht⟩) hS.2.2 d_R_record_90
        · refine lv_lconst (v := 0) hx hb d_R_record_79 (by decide) ?_
          have hP9 := hP.sub (ws' := [(A 20, xc20 Z A (ap_R_record M (p10.2))), (A 29, xc29 Z A (ap_R_record M (p10.2))), (A 30, xc30 Z A (ap_R_record M (p10.2))), (A 31, xc31 Z A (ap_R_record M (p10.2)))]) [3, 0, 1, 2] rfl
          have hD9 := hD.sub (ws' := [(A 20, xc20 Z A (ap_R_record M (p10.2))), (A 29, xc29 Z A (ap_R_record M (p10.2))), (A 30, xc30 Z A (ap_R_record M (p10.2))), (A 31, xc31 Z A (ap_R_record M (p10.2)))]) [3, 0, 1, 2] (by decide) rfl
          exact W.lret hx hb hr (fun t ht hW => ⟨⟨0, (p10.2), rfl, (by rw [F_R_record, ← hz1, F_R_record_k1, ← hj2, F_R_record_k3, ← hj4, F_R_record_k6, ← hj6, F_R_record_k8, ← hu8, F_R_record_k9, if_neg h11]), xE_at hP9 hK hD9 ht hW⟩, hS.F ht⟩) hS.2.2 d_R_record_80
abbrev bc_R_segment : ByteArray := prog_12_method_10_code
def y_R_segment : MethodName := ⟨"CentrifugeUnitModel", "segment", "(III)I"⟩
theorem d_R_segment_0 : decode bc_R_segment 0 = .ok (.iload_n 1, 1) := by decide +kernel
theorem d_R_segment_1 : decode bc_R_segment 1 = .ok (.iload_n 2, 1) := by decide +kernel
theorem d_R_segment_2 : decode bc_R_segment 2 = .ok (.iload_n 3, 1) := by decide +kernel
theorem d_R_segment_3 : decode bc_R_segment 3 = .ok (.invokestatic 116, 3) := by decide +kernel
theorem d_R_segment_6 : decode bc_R_segment 6 = .ok (.ifCond .ne 7, 3) := by decide +kernel
theorem d_R_segment_9 : decode bc_R_segment 9 = .ok (.iconst 1, 1) := by decide +kernel
theorem d_R_segment_10 : decode bc_R_segment 10 = .ok (.goto 4, 3) := by decide +kernel
theorem d_R_segment_13 : decode bc_R_segment 13 = .ok (.iconst 0, 1) := by decide +kernel
theorem d_R_segment_14 : decode bc_R_segment 14 = .ok (.istore 4, 2) := by decide +kernel
theorem d_R_segment_16 : decode bc_R_segment 16 = .ok (.aload_n 0, 1) := by decide +kernel
theorem d_R_segment_17 : decode bc_R_segment 17 = .ok (.iload 4, 2) := by decide +kernel
theorem d_R_segment_19 : decode bc_R_segment 19 = .ok (.iload 4, 2) := by decide +kernel
theorem d_R_segment_21 : decode bc_R_segment 21 = .ok (.ifCond .ne 34, 3) := by decide +kernel
theorem d_R_segment_24 : decode bc_R_segment 24 = .ok (.aload_n 0, 1) := by decide +kernel
theorem d_R_segment_25 : decode bc_R_segment 25 = .ok (.getfield 95, 3) := by decide +kernel
theorem d_R_segment_28 : decode bc_R_segment 28 = .ok (.ifCond .ne 23, 3) := by decide +kernel
theorem d_R_segment_31 : decode bc_R_segment 31 = .ok (.aload_n 0, 1) := by decide +kernel
theorem d_R_segment_32 : decode bc_R_segment 32 = .ok (.getfield 45, 3) := by decide +kernel
theorem d_R_segment_35 : decode bc_R_segment 35 = .ok (.ifCond .eq 16, 3) := by decide +kernel
theorem d_R_segment_38 : decode bc_R_segment 38 = .ok (.iload_n 1, 1) := by decide +kernel
theorem d_R_segment_39 : decode bc_R_segment 39 = .ok (.ifCond .lt 16, 3) := by decide +kernel
theorem d_R_segment_42 : decode bc_R_segment 42 = .ok (.aload_n 0, 1) := by decide +kernel
theorem d_R_segment_43 : decode bc_R_segment 43 = .ok (.getfield 120, 3) := by decide +kernel
theorem d_R_segment_46 : decode bc_R_segment 46 = .ok (.bipush 12, 2) := by decide +kernel
theorem d_R_segment_48 : decode bc_R_segment 48 = .ok (.if_icmp .ne 7, 3) := by decide +kernel
theorem d_R_segment_51 : decode bc_R_segment 51 = .ok (.iconst 1, 1) := by decide +kernel
theorem d_R_segment_52 : decode bc_R_segment 52 = .ok (.goto 4, 3) := by decide +kernel
theorem d_R_segment_55 : decode bc_R_segment 55 = .ok (.iconst 0, 1) := by decide +kernel
theorem d_R_segment_56 : decode bc_R_segment 56 = .ok (.invokevirtual 98, 3) := by decide +kernel
theorem d_R_segment_59 : decode bc_R_segment 59 = .ok (.ifCond .eq 5, 3) := by decide +kernel
theorem d_R_segment_62 : decode bc_R_segment 62 = .ok (.iconst 0, 1) := by decide +kernel
theorem d_R_segment_63 : decode bc_R_segment 63 = .ok (.ireturn, 1) := by decide +kernel
theorem d_R_segment_64 : decode bc_R_segment 64 = .ok (.iload_n 1, 1) := by decide +kernel
theorem d_R_segment_65 : decode bc_R_segment 65 = .ok (.ifCond .ge 10, 3) := by decide +kernel
theorem d_R_segment_68 : decode bc_R_segment 68 = .ok (.aload_n 0, 1) := by decide +kernel
theorem d_R_segment_69 : decode bc_R_segment 69 = .ok (.iconst 0, 1) := by decide +kernel
theorem d_R_segment_70 : decode bc_R_segment 70 = .ok (.putfield 120, 3) := by decide +kernel
theorem d_R_segment_73 : decode bc_R_segment 73 = .ok (.iconst 0, 1) := by decide +kernel
theorem d_R_segment_74 : decode bc_R_segment 74 = .ok (.ireturn, 1) := by decide +kernel
theorem d_R_segment_75 : decode bc_R_segment 75 = .ok (.aload_n 0, 1) := by decide +kernel
theorem d_R_segment_76 : decode bc_R_segment 76 = .ok (.getfield 30, 3) := by decide +kernel
theorem d_R_segment_79 : decode bc_R_segment 79 = .ok (.aload_n 0, 1) := by decide +kernel
theorem d_R_segment_80 : decode bc_R_segment 80 = .ok (.getfield 120, 3) := by decide +kernel
theorem d_R_segment_83 : decode bc_R_segment 83 = .ok (.iload_n 1, 1) := by decide +kernel
theorem d_R_segment_84 : decode bc_R_segment 84 = .ok (.iastore, 1) := by decide +kernel
theorem d_R_segment_85 : decode bc_R_segment 85 = .ok (.aload_n 0, 1) := by decide +kernel
theorem d_R_segment_86 : decode bc_R_segment 86 = .ok (.getfield 33, 3) := by decide +kernel
theorem d_R_segment_89 : decode bc_R_segment 89 = .ok (.aload_n 0, 1) := by decide +kernel
theorem d_R_segment_90 : decode bc_R_segment 90 = .ok (.getfield 120, 3) := by decide +kernel
theorem d_R_segment_93 : decode bc_R_segment 93 = .ok (.iload_n 2, 1) := by decide +kernel
theorem d_R_segment_94 : decode bc_R_segment 94 = .ok (.iastore, 1) := by decide +kernel
theorem d_R_segment_95 : decode bc_R_segment 95 = .ok (.aload_n 0, 1) := by decide +kernel
theorem d_R_segment_96 : decode bc_R_segment 96 = .ok (.getfield 36, 3) := by decide +kernel
theorem d_R_segment_99 : decode bc_R_segment 99 = .ok (.aload_n 0, 1) := by decide +kernel
theorem d_R_segment_100 : decode bc_R_segment 100 = .ok (.getfield 120, 3) := by decide +kernel
theorem d_R_segment_103 : decode bc_R_segment 103 = .ok (.iload_n 3, 1) := by decide +kernel
theorem d_R_segment_104 : decode bc_R_segment 104 = .ok (.iastore, 1) := by decide +kernel
theorem d_R_segment_105 : decode bc_R_segment 105 = .ok (.aload_n 0, 1) := by decide +kernel
theorem d_R_segment_106 : decode bc_R_segment 106 = .ok (.dup, 1) := by decide +kernel
theorem d_R_segment_107 : decode bc_R_segment 107 = .ok (.getfield 120, 3) := by decide +kernel
theorem d_R_segment_110 : decode bc_R_segment 110 = .ok (.iconst 1, 1) := by decide +kernel
theorem d_R_segment_111 : decode bc_R_segment 111 = .ok (.iadd, 1) := by decide +kernel
theorem d_R_segment_112 : decode bc_R_segment 112 = .ok (.putfield 120, 3) := by decide +kernel
theorem d_R_segment_115 : decode bc_R_segment 115 = .ok (.aload_n 0, 1) := by decide +kernel
theorem d_R_segment_116 : decode bc_R_segment 116 = .ok (.getfield 120, 3) := by decide +kernel
theorem d_R_segment_119 : decode bc_R_segment 119 = .ok (.ireturn, 1) := by decide +kernel
abbrev ap_R_segment (M : XM) (u : (Int32 × (Nat → Int32) × (Nat → Int32) × (Nat → Int32) × Int32)) : XM := ((va_up (va_up M.1 100 (u.1)) 102 (u.2.2.2.2)), M.2.1, (va_up (va_up (va_up M.2.2.1 26 (u.2.1)) 27 (u.2.2.1)) 28 (u.2.2.2.1)), M.2.2.2)
def F_R_segment_k6 (M : XM) (a1 : Int32) (a2 : Int32) (a3 : Int32) (z1 : Int32) (j2 : Int32) (j4 : Int32) (p8 : Int32 × Int32) : Int32 × (Int32 × (Nat → Int32) × (Nat → Int32) × (Nat → Int32) × Int32) := (if p8.1 = 0 then (if 0 ≤ a1 then (((M.1 102) + 1), ((p8.2), (upd (M.2.2.1 26) ((M.1 102)).toNatClampNeg a1), (upd (M.2.2.1 27) ((M.1 102)).toNatClampNeg a2), (upd (M.2.2.1 28) ((M.1 102)).toNatClampNeg a3), ((M.1 102) + 1))) else (0, ((p8.2), (M.2.2.1 26), (M.2.2.1 27), (M.2.2.1 28), 0))) else (0, ((p8.2), (M.2.2.1 26), (M.2.2.1 27), (M.2.2.1 28), (M.1 102))))
def F_R_segment_k5 (M : XM) (a1 : Int32) (a2 : Int32) (a3 : Int32) (z1 : Int32) (j2 : Int32) (j4 : Int32) : Int32 × (Int32 × (Nat → Int32) × (Nat → Int32) × (Nat → Int32) × Int32) := (F_R_segment_k6 M a1 a2 a3 z1 j2 j4 (F_R_throwing M j2 j4))
def F_R_segment_j4 (M : XM) (a1 : Int32) (a2 : Int32) (a3 : Int32) (z1 : Int32) (j2 : Int32) : Int32 := (if j2 = 0 then (if (M.1 110) = 0 then (if (M.1 109) = 0 then 1 else (if a1 < 0 then 0 else (if (M.1 102) = 12 then 1 else 0))) else 1) else 0)
def F_R_segment_k3 (M : XM) (a1 : Int32) (a2 : Int32) (a3 : Int32) (z1 : Int32) (j2 : Int32) : Int32 × (Int32 × (Nat → Int32) × (Nat → Int32) × (Nat → Int32) × Int32) := (F_R_segment_k5 M a1 a2 a3 z1 j2 (F_R_segment_j4 M a1 a2 a3 z1 j2))
def F_R_segment_j2 (M : XM) (a1 : Int32) (a2 : Int32) (a3 : Int32) (z1 : Int32) : Int32 := (if z1 = 0 then 1 else 0)
def F_R_segment_k1 (M : XM) (a1 : Int32) (a2 : Int32) (a3 : Int32) (z1 : Int32) : Int32 × (Int32 × (Nat → Int32) × (Nat → Int32) × (Nat → Int32) × Int32) := (F_R_segment_k3 M a1 a2 a3 z1 (F_R_segment_j2 M a1 a2 a3 z1))
def F_R_segment (M : XM) (a1 : Int32) (a2 : Int32) (a3 : Int32) : Int32 × (Int32 × (Nat → Int32) × (Nat → Int32) × (Nat → Int32) × Int32) := (F_R_segment_k1 M a1 a2 a3 (F_R_isSegment M a1 a2 a3))
set_option maxHeartbeats 4000000 in
set_option maxRecDepth 100000 in
theorem c_R_segment (l : Launch) (dC : Nat → ClassId) (dI : Nat → Nat → Nat) (Z : Nat → ClassId) (A : Nat → Nat) (sz : Nat) (M : XM) (a1 : Int32) (a2 : Int32) (a3 : Int32) (hc0 : 0 ≤ (M.1 102)) (hc : (M.1 102) ≤ 12) : Met l y_R_segment (.code y_R_segment bc_R_segment 5 (some .int) :: xw) ({ frames := 2, cells := 0, slots := 0, locals := 47 }) (va_Pc [.ref (A 20), .int a1, .int a2, .int a3] (xB (dC, dI) xcl (xty Z) sz [(A 20, xc20 Z A M), (A 26, xc26 Z A M), (A 27, xc27 Z A M), (A 28, xc28 Z A M)])) (va_Qi (fun (r : Int32) (u : (Int32 × (Nat → Int32) × (Nat → Int32) × (Nat → Int32) × Int32)) => (r, u) = F_R_segment M a1 a2 a3) (fun u => xE (dC, dI) xcl (xty Z) (va_A [(A 20, xc20 Z A M), (A 26, xc26 Z A M), (A 27, xc27 Z A M), (A 28, xc28 Z A M)] sz) [(A 20, xc20 Z A (ap_R_segment M u)), (A 26, xc26 Z A (ap_R_segment M u)), (A 27, xc27 Z A (ap_R_segment M u)), (A 28, xc28 Z A (ap_R_segment M u))]) (va_A [(A 20, xc20 Z A M), (A 26, xc26 Z A M), (A 27, xc27 Z A M), (A 28, xc28 Z A M)] sz)) 0 0 (va_A [(A 20, xc20 Z A M), (A 26, xc26 Z A M), (A 27, xc27 Z A M), (A 28, xc28 Z A M)] sz) := by
  refine Met.ofW (cc := bc_R_segment) (maxL := 5) (ret := (some .int)) (by decide) rfl ?_
  intro p e s m args below meth c s₁ B hml hv
  obtain ⟨rfl, hsz, hP, hK, hD0, hq⟩ := hv
  have hx := B.exec
  have hb := B.bytes
  have hr := B.returns
  have hts := atoms_spec (ws := (.code y_R_segment bc_R_segment 5 (some .int) :: xw)) B.pre
  have htt : ∀ w ∈ xw, w.before _ s = true := fun w h => hts w (List.mem_cons_of_mem _ h)
  have hown : s.vm.findClass "CentrifugeUnitModel" = some m.cls := findClass_of_methodNamed B.named
  have hlocks := B.notSynchronized
  subst hsz
  have hD := hD0.self (sz := s.heap.size)
  generalize hAe : va_A [(A 20, xc20 Z A M), (A 26, xc26 Z A M), (A 27, xc27 Z A M), (A 28, xc28 Z A M)] s.heap.size = AA at hD ⊢
  have hA : ∀ q : Nat, s.heap.size ≤ q → AA q := fun q h => by rw [← hAe]; exact Or.inr h
  have hS : va_S AA s.heap s.heap [] := va_S.rf
  have hP : va_P (dC, dI) xcl [(A 20, .inr (10, [.int (M.1 100), .ref (A 21), .ref (A 22), .ref (A 23), .ref (A 24), .ref (A 25), .int (M.1 101), .ref (A 26), .ref (A 27), .ref (A 28), .int (M.1 102), .long (M.2.1 100), .int (M.1 103), .int (M.1 104), .int (M.1 105), .int (M.1 106), .int (M.1 107), .int (M.1 108), .long (M.2.1 101), .long (M.2.1 102), .long (M.2.1 103), .int (M.1 109), .int (M.1 110), .int (M.1 111), .int (M.1 112), .int (M.1 113), .long (M.2.1 104), .long (M.2.1 105), .long (M.2.1 106), .int (M.1 114), .int (M.1 115), .int (M.1 116), .int (M.1 117), .int (M.1 118), .int (M.1 119), .int (M.1 120), .int (M.1 121), .int (M.1 122), .int (M.1 123), .int (M.1 124), .long (M.2.1 107), .int (M.1 125), .ref (A 29), .ref (A 30), .ref (A 31)])), (A 26, .inl (Z 0, 12, .inl (M.2.2.1 26))), (A 27, .inl (Z 0, 12, .inl (M.2.2.1 27))), (A 28, .inl (Z 0, 12, .inl (M.2.2.1 28)))] s.heap := hP
  have hD : va_D AA [(A 20, .inr (10, [.int (M.1 100), .ref (A 21), .ref (A 22), .ref (A 23), .ref (A 24), .ref (A 25), .int (M.1 101), .ref (A 26), .ref (A 27), .ref (A 28), .int (M.1 102), .long (M.2.1 100), .int (M.1 103), .int (M.1 104), .int (M.1 105), .int (M.1 106), .int (M.1 107), .int (M.1 108), .long (M.2.1 101), .long (M.2.1 102), .long (M.2.1 103), .int (M.1 109), .int (M.1 110), .int (M.1 111), .int (M.1 112), .int (M.1 113), .long (M.2.1 104), .long (M.2.1 105), .long (M.2.1 106), .int (M.1 114), .int (M.1 115), .int (M.1 116), .int (M.1 117), .int (M.1 118), .int (M.1 119), .int (M.1 120), .int (M.1 121), .int (M.1 122), .int (M.1 123), .int (M.1 124), .long (M.2.1 107), .int (M.1 125), .ref (A 29), .ref (A 30), .ref (A 31)])), (A 26, .inl (Z 0, 12, .inl (M.2.2.1 26))), (A 27, .inl (Z 0, 12, .inl (M.2.2.1 27))), (A 28, .inl (Z 0, 12, .inl (M.2.2.1 28)))] := hD
  have hl := lv_entry ([.ref (A 20), .int a1, .int a2, .int a3]) (n := 5) (Nat.le_of_ble_eq_true rfl)
  rw [lg_entry_eq]
  generalize (lg_sl ([.ref (A 20), .int a1, .int a2, .int a3]) ++ List.replicate (5 - (lg_sl ([.ref (A 20), .int a1, .int a2, .int a3])).length) Slot.unset).toArray = ls at hl ⊢
  have hl : lv_has ls 5 [(0, .ref (A 20)), (1, .int a1), (2, .int a2), (3, .int a3)] := hl
  refine lv_iload_n hx hb d_R_segment_0 rfl (lv_at hl 1 rfl) ?_
  refine lv_iload_n hx hb d_R_segment_1 rfl (lv_at hl 2 rfl) ?_
  refine lv_iload_n hx hb d_R_segment_2 rfl (lv_at hl 3 rfl) ?_
  have hPc := hP.sub (ws' := []) [] rfl
  have hDc := hD.sub (ws' := []) [] (by decide) rfl
  refine xk_p (va_runS (As := [.int a1, .int a2, .int a3]) (rest := []) ⟨hx, hb, hml, hown, hts⟩ (c_R_isSegment l dC dI Z A _ M a1 a2 a3) (va_cwS 3 hts (xw_S _ tw_947 tw_948 tw_12 tw_949) rfl rfl rfl (by decide +kernel) ⟨Nat.le_of_ble_eq_true rfl, Nat.le_of_ble_eq_true rfl⟩) ⟨xB_blind, fun U hU hW => ⟨rfl, xB_at hPc hK hDc hq U hU hW⟩⟩ rfl rfl hl.1 rfl (lv_room (Nat.le_of_ble_eq_true rfl)) d_R_segment_3 ⟨Nat.le_of_ble_eq_true rfl, Nat.le_of_ble_eq_true rfl⟩) ?_
  refine lv_topi (fun z1 hz1 => ?_)
  refine xj_p 5 14 (fun q9 : Int32 => [(0, .ref (A 20)), (1, .int a1), (2, .int a2), (3, .int a3)]) (fun q9 : Int32 => [.int q9]) (fun q9 : Int32 => q9 = F_R_segment_j2 M a1 a2 a3 z1) (fun hJ3 => ?_) (fun ls j2 hl hj2 => ?_)
  · refine lv_if_ne (tgt := 13) hx hb d_R_segment_6 rfl (fun h16 => ?_) (fun h16 => ?_)
    · refine lv_iconst (v := 0) hx hb d_R_segment_13 (by decide) ?_
      exact hJ3 _ 0 (lv_sub hl [0, 1, 2, 3] rfl) (by rw [F_R_segment_j2, if_neg h16])
    · refine lv_iconst (v := 1) hx hb d_R_segment_9 (by decide) ?_
      refine lv_goto (tgt := 14) hx hb d_R_segment_10 rfl ?_
      exact hJ3 _ 1 (lv_sub hl [0, 1, 2, 3] rfl) (by rw [F_R_segment_j2, if_pos h16])
  · refine lv_istore (lv' := [(4, .int j2), (0, .ref (A 20)), (1, .int a1), (2, .int a2), (3, .int a3)]) hx hb d_R_segment_14 hl (by decide) rfl (fun ls hl => ?_)
    refine lv_aload_n hx hb d_R_segment_16 rfl (lv_at hl 1 rfl) ?_
    refine lv_iload hx hb d_R_segment_17 (lv_at hl 0 rfl) ?_
    refine lv_iload hx hb d_R_segment_19 (lv_at hl 0 rfl) ?_
    refine xj_p 5 56 (fun q9 : Int32 => [(4, .int j2), (0, .ref (A 20)), (1, .int a1), (2, .int a2), (3, .int a3)]) (fun q9 : Int32 => [.int q9, .int j2, .ref (A 20)]) (fun q9 : Int32 => q9 = F_R_segment_j4 M a1 a2 a3 z1 j2) (fun hJ5 => ?_) (fun ls j4 hl hj4 => ?_)
    · refine lv_if_ne (tgt := 55) hx hb d_R_segment_21 rfl (fun h11 => ?_) (fun h11 => ?_)
      · refine lv_iconst (v := 0) hx hb d_R_segment_55 (by decide) ?_
        exact hJ5 _ 0 (lv_sub hl [0, 1, 2, 3, 4] rfl) (by rw [F_R_segment_j4, if_neg h11])
      · refine lv_aload_n hx hb d_R_segment_24 rfl (lv_at hl 1 rfl) ?_
        refine va_get (D := (dC, dI)) (ci := 10) (v := .int (M.1 110)) (C := "CentrifugeUnitModel") (T := xF10) (N := 45) hx hb htt xin10 hown hK hP 0 rfl rfl 22 (by decide) (htt _ tw_801) (fun _ h9 => h9) rfl d_R_segment_25 ?_
        refine lv_if_ne (tgt := 51) hx hb d_R_segment_28 rfl (fun h12 => ?_) (fun h12 => ?_)
        · refine lv_iconst (v := 1) hx hb d_R_segment_51 (by decide) ?_
          refine lv_goto (tgt := 56) hx hb d_R_segment_52 rfl ?_
          exact hJ5 _ 1 (lv_sub hl [0, 1, 2, 3, 4] rfl) (by rw [F_R_segment_j4, if_pos h11, if_neg h12])
        · refine lv_aload_n hx hb d_R_segment_31 rfl (lv_at hl 1 rfl) ?_
          refine va_get (D := (dC, dI)) (ci := 10) (v := .int (M.1 109)) (C := "CentrifugeUnitModel") (T := xF10) (N := 45) hx hb htt xin10 hown hK hP 0 rfl rfl 21 (by decide) (htt _ tw_800) (fun _ h9 => h9) rfl d_R_segment_32 ?_
          refine lv_if_eq (tgt := 51) hx hb d_R_segment_35 rfl (fun h13 => ?_) (fun h13 => ?_)
          · refine lv_iconst (v := 1) hx hb d_R_segment_51 (by decide) ?_
            refine lv_goto (tgt := 56) hx hb d_R_segment_52 rfl ?_
            exact hJ5 _ 1 (lv_sub hl [0, 1, 2, 3, 4] rfl) (by rw [F_R_segment_j4, if_pos h11, if_pos h12, if_pos h13])
          · refine lv_iload_n hx hb d_R_segment_38 rfl (lv_at hl 2 rfl) ?_
            refine lv_if_lt (tgt := 55) hx hb d_R_segment_39 rfl (fun h14 => ?_) (fun h14 => ?_)
            · refine lv_iconst (v := 0) hx hb d_R_segment_55 (by decide) ?_
              exact hJ5 _ 0 (lv_sub hl [0, 1, 2, 3, 4] rfl) (by rw [F_R_segment_j4, if_pos h11, if_pos h12, if_neg h13, if_pos h14])
            · refine lv_aload_n hx hb d_R_segment_42 rfl (lv_at hl 1 rfl) ?_
              refine va_get (D := (dC, dI)) (ci := 10) (v := .int (M.1 102)) (C := "CentrifugeUnitModel") (T := xF10) (N := 45) hx hb htt xin10 hown hK hP 0 rfl rfl 10 (by decide) (htt _ tw_789) (fun _ h9 => h9) rfl d_R_segment_43 ?_
              refine lv_bipush (v := 12) hx hb d_R_segment_46 (by decide) ?_
              refine lv_icmp_ne (tgt := 55) hx hb d_R_segment_48 rfl (fun h15 => ?_) (fun h15 => ?_)
              · refine lv_iconst (v := 0) hx hb d_R_segment_55 (by decide) ?_
                exact hJ5 _ 0 (lv_sub hl [0, 1, 2, 3, 4] rfl) (by rw [F_R_segment_j4, if_pos h11, if_pos h12, if_neg h13, if_neg h14, if_neg h15])
              · refine lv_iconst (v := 1) hx hb d_R_segment_51 (by decide) ?_
                refine lv_goto (tgt := 56) hx hb d_R_segment_52 rfl ?_
                exact hJ5 _ 1 (lv_sub hl [0, 1, 2, 3, 4] rfl) (by rw [F_R_segment_j4, if_pos h11, if_pos h12, if_neg h13, if_neg h14, if_pos h15])
    · have hPc := hP.sub (ws' := [(A 20, xc20 Z A M)]) [0] rfl
      have hDc := hD.sub (ws' := [(A 20, xc20 Z A M)]) [0] (by decide) rfl
      refine xk_i (wc := [(A 20, xc20 Z A M)]) (wr := [(A 26, .inl (Z 0, 12, .inl (M.2.2.1 26))), (A 27, .inl (Z 0, 12, .inl (M.2.2.1 27))), (A 28, .inl (Z 0, 12, .inl (M.2.2.1 28)))]) (va_runV (As := [.int j2, .int j4]) (rest := []) ⟨hx, hb, hml, hown, hts⟩ (c_R_throwing l dC dI Z A _ M j2 j4) (cwV 2 hts (xw_V _ tw_934 tw_936 tp_12 tw_12 tw_937) rfl rfl rfl (by decide +kernel) ⟨Nat.le_of_ble_eq_true rfl, Nat.le_of_ble_eq_true rfl⟩) ⟨xB_blind, va_recv (q0 := 0) (ci := 10) hK hP rfl rfl, fun U hU hW => ⟨rfl, xB_at hPc hK hDc hq U hU hW⟩⟩ rfl rfl hl.1 rfl (lv_room (Nat.le_of_ble_eq_true rfl)) d_R_segment_56 ⟨Nat.le_of_ble_eq_true rfl, Nat.le_of_ble_eq_true rfl⟩) hP hD hS hA [0] [1, 2, 3] rfl rfl (by decide) (by decide) (fun r7 u6 H locs hu6 hP hD hS => ?_)
      obtain ⟨p8, rfl, rfl⟩ : ∃ z : Int32 × Int32, r7 = z.1 ∧ u6 = z.2 := ⟨(r7, u6), rfl, rfl⟩
      replace hu6 : p8 = (F_R_throwing M j2 j4) := hu6
      have hP : va_P (dC, dI) xcl [(A 26, .inl (Z 0, 12, .inl (M.2.2.1 26))), (A 27, .inl (Z 0, 12, .inl (M.2.2.1 27))), (A 28, .inl (Z 0, 12, .inl (M.2.2.1 28))), (A 20, .inr (10, [.int (p8.2), .ref (A 21), .ref (A 22), .ref (A 23), .ref (A 24), .ref (A 25), .int (M.1 101), .ref (A 26), .ref (A 27), .ref (A 28), .int (M.1 102), .long (M.2.1 100), .int (M.1 103), .int (M.1 104), .int (M.1 105), .int (M.1 106), .int (M.1 107), .int (M.1 108), .long (M.2.1 101), .long (M.2.1 102), .long (M.2.1 103), .int (M.1 109), .int (M.1 110), .int (M.1 111), .int (M.1 112), .int (M.1 113), .long (M.2.1 104), .long (M.2.1 105), .long (M.2.1 106), .int (M.1 114), .int (M.1 115), .int (M.1 116), .int (M.1 117), .int (M.1 118), .int (M.1 119), .int (M.1 120), .int (M.1 121), .int (M.1 122), .int (M.1 123), .int (M.1 124), .long (M.2.1 107), .int (M.1 125), .ref (A 29), .ref (A 30), .ref (A 31)]))] H := hP
      have hD : va_D AA [(A 26, .inl (Z 0, 12, .inl (M.2.2.1 26))), (A 27, .inl (Z 0, 12, .inl (M.2.2.1 27))), (A 28, .inl (Z 0, 12, .inl (M.2.2.1 28))), (A 20, .inr (10, [.int (p8.2), .ref (A 21), .ref (A 22), .ref (A 23), .ref (A 24), .ref (A 25), .int (M.1 101), .ref (A 26), .ref (A 27), .ref (A 28), .int (M.1 102), .long (M.2.1 100), .int (M.1 103), .int (M.1 104), .int (M.1 105), .int (M.1 106), .int (M.1 107), .int (M.1 108), .long (M.2.1 101), .long (M.2.1 102), .long (M.2.1 103), .int (M.1 109), .int (M.1 110), .int (M.1 111), .int (M.1 112), .int (M.1 113), .long (M.2.1 104), .long (M.2.1 105), .long (M.2.1 106), .int (M.1 114), .int (M.1 115), .int (M.1 116), .int (M.1 117), .int (M.1 118), .int (M.1 119), .int (M.1 120), .int (M.1 121), .int (M.1 122), .int (M.1 123), .int (M.1 124), .long (M.2.1 107), .int (M.1 125), .ref (A 29), .ref (A 30), .ref (A 31)]))] := hD
      refine lv_if_eq (tgt := 64) hx hb d_R_segment_59 rfl (fun h9 => ?_) (fun h9 => ?_)
      · refine lv_iload_n hx hb d_R_segment_64 rfl (lv_at hl 2 rfl) ?_
        refine lv_if_ge (tgt := 75) hx hb d_R_segment_65 rfl (fun h10 => ?_) (fun h10 => ?_)
        · refine lv_aload_n hx hb d_R_segment_75 rfl (lv_at hl 1 rfl) ?_
          refine va_get (D := (dC, dI)) (ci := 10) (v := .ref (A 26)) (C := "CentrifugeUnitModel") (T := xF10) (N := 45) hx hb htt xin10 hown hK hP 3 rfl rfl 7 (by decide) (htt _ tw_786) (fun _ h9 => h9) rfl d_R_segment_76 ?_
          refine lv_aload_n hx hb d_R_segment_79 rfl (lv_at hl 1 rfl) ?_
          refine va_get (D := (dC, dI)) (ci := 10) (v := .int (M.1 102)) (C := "CentrifugeUnitModel") (T := xF10) (N := 45) hx hb htt xin10 hown hK hP 3 rfl rfl 10 (by decide) (htt _ tw_789) (fun _ h9 => h9) rfl d_R_segment_80 ?_
          refine lv_iload_n hx hb d_R_segment_83 rfl (lv_at hl 2 rfl) ?_
          refine va_iast (D := (dC, dI)) hx hb hK hP hD hS 0 0 rfl rfl (xseg hc0 hc (by
            obtain ⟨q1, q2⟩ := xth0 (M := M) (a := j2) (b := j4) (by rw [← hu6]; exact h9)
            rw [hj4, F_R_segment_j4, if_pos q1] at q2
            intro e
            split at q2
            · split at q2
              · exact absurd q2 (by decide)
              · split at q2
                · rename_i w1
                  rw [Int32.lt_iff_toInt_lt] at w1
                  rw [Int32.le_iff_toInt_le] at h10
                  simp at w1 h10
                  omega
                · first | exact absurd q2 (by decide) | (rw [if_pos e] at q2; exact absurd q2 (by decide))
            · exact absurd q2 (by decide))) d_R_segment_84 (fun H locs hP hD hS => ?_)
          have hP : va_P (dC, dI) xcl [(A 26, .inl (Z 0, 12, .inl (upd (M.2.2.1 26) ((M.1 102)).toNatClampNeg a1))), (A 27, .inl (Z 0, 12, .inl (M.2.2.1 27))), (A 28, .inl (Z 0, 12, .inl (M.2.2.1 28))), (A 20, .inr (10, [.int (p8.2), .ref (A 21), .ref (A 22), .ref (A 23), .ref (A 24), .ref (A 25), .int (M.1 101), .ref (A 26), .ref (A 27), .ref (A 28), .int (M.1 102), .long (M.2.1 100), .int (M.1 103), .int (M.1 104), .int (M.1 105), .int (M.1 106), .int (M.1 107), .int (M.1 108), .long (M.2.1 101), .long (M.2.1 102), .long (M.2.1 103), .int (M.1 109), .int (M.1 110), .int (M.1 111), .int (M.1 112), .int (M.1 113), .long (M.2.1 104), .long (M.2.1 105), .long (M.2.1 106), .int (M.1 114), .int (M.1 115), .int (M.1 116), .int (M.1 117), .int (M.1 118), .int (M.1 119), .int (M.1 120), .int (M.1 121), .int (M.1 122), .int (M.1 123), .int (M.1 124), .long (M.2.1 107), .int (M.1 125), .ref (A 29), .ref (A 30), .ref (A 31)]))] H := hP
          have hD : va_D AA [(A 26, .inl (Z 0, 12, .inl (upd (M.2.2.1 26) ((M.1 102)).toNatClampNeg a1))), (A 27, .inl (Z 0, 12, .inl (M.2.2.1 27))), (A 28, .inl (Z 0, 12, .inl (M.2.2.1 28))), (A 20, .inr (10, [.int (p8.2), .ref (A 21), .ref (A 22), .ref (A 23), .ref (A 24), .ref (A 25), .int (M.1 101), .ref (A 26), .ref (A 27), .ref (A 28), .int (M.1 102), .long (M.2.1 100), .int (M.1 103), .int (M.1 104), .int (M.1 105), .int (M.1 106), .int (M.1 107), .int (M.1 108), .long (M.2.1 101), .long (M.2.1 102), .long (M.2.1 103), .int (M.1 109), .int (M.1 110), .int (M.1 111), .int (M.1 112), .int (M.1 113), .long (M.2.1 104), .long (M.2.1 105), .long (M.2.1 106), .int (M.1 114), .int (M.1 115), .int (M.1 116), .int (M.1 117), .int (M.1 118), .int (M.1 119), .int (M.1 120), .int (M.1 121), .int (M.1 122), .int (M.1 123), .int (M.1 124), .long (M.2.1 107), .int (M.1 125), .ref (A 29), .ref (A 30), .ref (A 31)]))] := hD
          refine lv_aload_n hx hb d_R_segment_85 rfl (lv_at hl 1 rfl) ?_
          refine va_get (D := (dC, dI)) (ci := 10) (v := .ref (A 27)) (C := "CentrifugeUnitModel") (T := xF10) (N := 45) hx hb htt xin10 hown hK hP 3 rfl rfl 8 (by decide) (htt _ tw_787) (fun _ h9 => h9) rfl d_R_segment_86 ?_
          refine lv_aload_n hx hb d_R_segment_89 rfl (lv_at hl 1 rfl) ?_
          refine va_get (D := (dC, dI)) (ci := 10) (v := .int (M.1 102)) (C := "CentrifugeUnitModel") (T := xF10) (N := 45) hx hb htt xin10 hown hK hP 3 rfl rfl 10 (by decide) (htt _ tw_789) (fun _ h9 => h9) rfl d_R_segment_90 ?_
          refine lv_iload_n hx hb d_R_segment_93 rfl (lv_at hl 3 rfl) ?_
          refine va_iast (D := (dC, dI)) hx hb hK hP hD hS 1 0 rfl rfl (xseg hc0 hc (by
            obtain ⟨q1, q2⟩ := xth0 (M := M) (a := j2) (b := j4) (by rw [← hu6]; exact h9)
            rw [hj4, F_R_segment_j4, if_pos q1] at q2
            intro e
            split at q2
            · split at q2
              · exact absurd q2 (by decide)
              · split at q2
                · rename_i w1
                  rw [Int32.lt_iff_toInt_lt] at w1
                  rw [Int32.le_iff_toInt_le] at h10
                  simp at w1 h10
                  omega
                · first | exact absurd q2 (by decide) | (rw [if_pos e] at q2; exact absurd q2 (by decide))
            · exact absurd q2 (by decide))) d_R_segment_94 (fun H locs hP hD hS => ?_)
          have hP : va_P (dC, dI) xcl [(A 26, .inl (Z 0, 12, .inl (upd (M.2.2.1 26) ((M.1 102)).toNatClampNeg a1))), (A 27, .inl (Z 0, 12, .inl (upd (M.2.2.1 27) ((M.1 102)).toNatClampNeg a2))), (A 28, .inl (Z 0, 12, .inl (M.2.2.1 28))), (A 20, .inr (10, [.int (p8.2), .ref (A 21), .ref (A 22), .ref (A 23), .ref (A 24), .ref (A 25), .int (M.1 101), .ref (A 26), .ref (A 27), .ref (A 28), .int (M.1 102), .long (M.2.1 100), .int (M.1 103), .int (M.1 104), .int (M.1 105), .int (M.1 106), .int (M.1 107), .int (M.1 108), .long (M.2.1 101), .long (M.2.1 102), .long (M.2.1 103), .int (M.1 109), .int (M.1 110), .int (M.1 111), .int (M.1 112), .int (M.1 113), .long (M.2.1 104), .long (M.2.1 105), .long (M.2.1 106), .int (M.1 114), .int (M.1 115), .int (M.1 116), .int (M.1 117), .int (M.1 118), .int (M.1 119), .int (M.1 120), .int (M.1 121), .int (M.1 122), .int (M.1 123), .int (M.1 124), .long (M.2.1 107), .int (M.1 125), .ref (A 29), .ref (A 30), .ref (A 31)]))] H := hP
          have hD : va_D AA [(A 26, .inl (Z 0, 12, .inl (upd (M.2.2.1 26) ((M.1 102)).toNatClampNeg a1))), (A 27, .inl (Z 0, 12, .inl (upd (M.2.2.1 27) ((M.1 102)).toNatClampNeg a2))), (A 28, .inl (Z 0, 12, .inl (M.2.2.1 28))), (A 20, .inr (10, [.int (p8.2), .ref (A 21), .ref (A 22), .ref (A 23), .ref (A 24), .ref (A 25), .int (M.1 101), .ref (A 26), .ref (A 27), .ref (A 28), .int (M.1 102), .long (M.2.1 100), .int (M.1 103), .int (M.1 104), .int (M.1 105), .int (M.1 106), .int (M.1 107), .int (M.1 108), .long (M.2.1 101), .long (M.2.1 102), .long (M.2.1 103), .int (M.1 109), .int (M.1 110), .int (M.1 111), .int (M.1 112), .int (M.1 113), .long (M.2.1 104), .long (M.2.1 105), .long (M.2.1 106), .int (M.1 114), .int (M.1 115), .int (M.1 116), .int (M.1 117), .int (M.1 118), .int (M.1 119), .int (M.1 120), .int (M.1 121), .int (M.1 122), .int (M.1 123), .int (M.1 124), .long (M.2.1 107), .int (M.1 125), .ref (A 29), .ref (A 30), .ref (A 31)]))] := hD
          refine lv_aload_n hx hb d_R_segment_95 rfl (lv_at hl 1 rfl) ?_
          refine va_get (D := (dC, dI)) (ci := 10) (v := .ref (A 28)) (C := "CentrifugeUnitModel") (T := xF10) (N := 45) hx hb htt xin10 hown hK hP 3 rfl rfl 9 (by decide) (htt _ tw_788) (fun _ h9 => h9) rfl d_R_segment_96 ?_
          refine lv_aload_n hx hb d_R_segment_99 rfl (lv_at hl 1 rfl) ?_
          refine va_get (D := (dC, dI)) (ci := 10) (v := .int (M.1 102)) (C := "CentrifugeUnitModel") (T := xF10) (N := 45) hx hb htt xin10 hown hK hP 3 rfl rfl 10 (by decide) (htt _ tw_789) (fun _ h9 => h9) rfl d_R_segment_100 ?_
          refine lv_iload_n hx hb d_R_segment_103 rfl (lv_at hl 4 rfl) ?_
          refine va_iast (D := (dC, dI)) hx hb hK hP hD hS 2 0 rfl rfl (xseg hc0 hc (by
            obtain ⟨q1, q2⟩ := xth0 (M := M) (a := j2) (b := j4) (by rw [← hu6]; exact h9)
            rw [hj4, F_R_segment_j4, if_pos q1] at q2
            intro e
            split at q2
            · split at q2
              · exact absurd q2 (by decide)
              · split at q2
                · rename_i w1
                  rw [Int32.lt_iff_toInt_lt] at w1
                  rw [Int32.le_iff_toInt_le] at h10
                  simp at w1 h10
                  omega
                · first | exact absurd q2 (by decide) | (rw [if_pos e] at q2; exact absurd q2 (by decide))
            · exact absurd q2 (by decide))) d_R_segment_104 (fun H locs hP hD hS => ?_)
          have hP : va_P (dC, dI) xcl [(A 26, .inl (Z 0, 12, .inl (upd (M.2.2.1 26) ((M.1 102)).toNatClampNeg a1))), (A 27, .inl (Z 0, 12, .inl (upd (M.2.2.1 27) ((M.1 102)).toNatClampNeg a2))), (A 28, .inl (Z 0, 12, .inl (upd (M.2.2.1 28) ((M.1 102)).toNatClampNeg a3))), (A 20, .inr (10, [.int (p8.2), .ref (A 21), .ref (A 22), .ref (A 23), .ref (A 24), .ref (A 25), .int (M.1 101), .ref (A 26), .ref (A 27), .ref (A 28), .int (M.1 102), .long (M.2.1 100), .int (M.1 103), .int (M.1 104), .int (M.1 105), .int (M.1 106), .int (M.1 107), .int (M.1 108), .long (M.2.1 101), .long (M.2.1 102), .long (M.2.1 103), .int (M.1 109), .int (M.1 110), .int (M.1 111), .int (M.1 112), .int (M.1 113), .long (M.2.1 104), .long (M.2.1 105), .long (M.2.1 106), .int (M.1 114), .int (M.1 115), .int (M.1 116), .int (M.1 117), .int (M.1 118), .int (M.1 119), .int (M.1 120), .int (M.1 121), .int (M.1 122), .int (M.1 123), .int (M.1 124), .long (M.2.1 107), .int (M.1 125), .ref (A 29), .ref (A 30), .ref (A 31)]))] H := hP
          have hD : va_D AA [(A 26, .inl (Z 0, 12, .inl (upd (M.2.2.1 26) ((M.1 102)).toNatClampNeg a1))), (A 27, .inl (Z 0, 12, .inl (upd (M.2.2.1 27) ((M.1 102)).toNatClampNeg a2))), (A 28, .inl (Z 0, 12, .inl (upd (M.2.2.1 28) ((M.1 102)).toNatClampNeg a3))), (A 20, .inr (10, [.int (p8.2), .ref (A 21), .ref (A 22), .ref (A 23), .ref (A 24), .ref (A 25), .int (M.1 101), .ref (A 26), .ref (A 27), .ref (A 28), .int (M.1 102), .long (M.2.1 100), .int (M.1 103), .int (M.1 104), .int (M.1 105), .int (M.1 106), .int (M.1 107), .int (M.1 108), .long (M.2.1 101), .long (M.2.1 102), .long (M.2.1 103), .int (M.1 109), .int (M.1 110), .int (M.1 111), .int (M.1 112), .int (M.1 113), .long (M.2.1 104), .long (M.2.1 105), .long (M.2.1 106), .int (M.1 114), .int (M.1 115), .int (M.1 116), .int (M.1 117), .int (M.1 118), .int (M.1 119), .int (M.1 120), .int (M.1 121), .int (M.1 122), .int (M.1 123), .int (M.1 124), .long (M.2.1 107), .int (M.1 125), .ref (A 29), .ref (A 30), .ref (A 31)]))] := hD
          refine lv_aload_n hx hb d_R_segment_105 rfl (lv_at hl 1 rfl) ?_
          refine lv_dup hx hb d_R_segment_106 rfl ?_
          refine va_get (D := (dC, dI)) (ci := 10) (v := .int (M.1 102)) (C := "CentrifugeUnitModel") (T := xF10) (N := 45) hx hb htt xin10 hown hK hP 3 rfl rfl 10 (by decide) (htt _ tw_789) (fun _ h9 => h9) rfl d_R_segment_107 ?_
          refine lv_iconst (v := 1) hx hb d_R_segment_110 (by decide) ?_
          refine lv_iadd hx hb d_R_segment_111 ?_
          refine va_put (D := (dC, dI)) (ci := 10) (v := .int ((M.1 102) + 1)) (ty := .int) (C := "CentrifugeUnitModel") (T := xF10) (N := 45) hx hb htt xin10 xT10 xTo10 xNm10 hown hK hP hD hS 3 rfl rfl 10 (by decide) (htt _ tw_789) (fun _ h9 => h9) rfl (by decide +kernel) rfl rfl (Nat.le_of_ble_eq_true rfl) d_R_segment_112 (fun H locs hP hD hS => ?_)
          have hP : va_P (dC, dI) xcl [(A 26, .inl (Z 0, 12, .inl (upd (M.2.2.1 26) ((M.1 102)).toNatClampNeg a1))), (A 27, .inl (Z 0, 12, .inl (upd (M.2.2.1 27) ((M.1 102)).toNatClampNeg a2))), (A 28, .inl (Z 0, 12, .inl (upd (M.2.2.1 28) ((M.1 102)).toNatClampNeg a3))), (A 20, .inr (10, [.int (p8.2), .ref (A 21), .ref (A 22), .ref (A 23), .ref (A 24), .ref (A 25), .int (M.1 101), .ref (A 26), .ref (A 27), .ref (A 28), .int ((M.1 102) + 1), .long (M.2.1 100), .int (M.1 103), .int (M.1 104), .int (M.1 105), .int (M.1 106), .int (M.1 107), .int (M.1 108), .long (M.2.1 101), .long (M.2.1 102), .long (M.2.1 103), .int (M.1 109), .int (M.1 110), .int (M.1 111), .int (M.1 112), .int (M.1 113), .long (M.2.1 104), .long (M.2.1 105), .long (M.2.1 106), .int (M.1 114), .int (M.1 115), .int (M.1 116), .int (M.1 117), .int (M.1 118), .int (M.1 119), .int (M.1 120), .int (M.1 121), .int (M.1 122), .int (M.1 123), .int (M.1 124), .long (M.2.1 107), .int (M.1 125), .ref (A 29), .ref (A 30), .ref (A 31)]))] H := hP
          have hD : va_D AA [(A 26, .inl (Z 0, 12, .inl (upd (M.2.2.1 26) ((M.1 102)).toNatClampNeg a1))), (A 27, .inl (Z 0, 12, .inl (upd (M.2.2.1 27) ((M.1 102)).toNatClampNeg a2))), (A 28, .inl (Z 0, 12, .inl (upd (M.2.2.1 28) ((M.1 102)).toNatClampNeg a3))), (A 20, .inr (10, [.int (p8.2), .ref (A 21), .ref (A 22), .ref (A 23), .ref (A 24), .ref (A 25), .int (M.1 101), .ref (A 26), .ref (A 27), .ref (A 28), .int ((M.1 102) + 1), .long (M.2.1 100), .int (M.1 103), .int (M.1 104), .int (M.1 105), .int (M.1 106), .int (M.1 107), .int (M.1 108), .long (M.2.1 101), .long (M.2.1 102), .long (M.2.1 103), .int (M.1 109), .int (M.1 110), .int (M.1 111), .int (M.1 112), .int (M.1 113), .long (M.2.1 104), .long (M.2.1 105), .long (M.2.1 106), .int (M.1 114), .int (M.1 115), .int (M.1 116), .int (M.1 117), .int (M.1 118), .int (M.1 119), .int (M.1 120), .int (M.1 121), .int (M.1 122), .int (M.1 123), .int (M.1 124), .long (M.2.1 107), .int (M.1 125), .ref (A 29), .ref (A 30), .ref (A 31)]))] := hD
          refine lv_aload_n hx hb d_R_segment_115 rfl (lv_at hl 1 rfl) ?_
          refine va_get (D := (dC, dI)) (ci := 10) (v := .int ((M.1 102) + 1)) (C := "CentrifugeUnitModel") (T := xF10) (N := 45) hx hb htt xin10 hown hK hP 3 rfl rfl 10 (by decide) (htt _ tw_789) (fun _ h9 => h9) rfl d_R_segment_116 ?_
          have hP9 := hP.sub (ws' := [(A 20, xc20 Z A (ap_R_segment M ((p8.2), (upd (M.2.2.1 26) ((M.1 102)).toNatClampNeg a1), (upd (M.2.2.1 27) ((M.1 102)).toNatClampNeg a2), (upd (M.2.2.1 28) ((M.1 102)).toNatClampNeg a3), ((M.1 102) + 1)))), (A 26, xc26 Z A (ap_R_segment M ((p8.2), (upd (M.2.2.1 26) ((M.1 102)).toNatClampNeg a1), (upd (M.2.2.1 27) ((M.1 102)).toNatClampNeg a2), (upd (M.2.2.1 28) ((M.1 102)).toNatClampNeg a3), ((M.1 102) + 1)))), (A 27, xc27 Z A (ap_R_segment M ((p8.2), (upd (M.2.2.1 26) ((M.1 102)).toNatClampNeg a1), (upd (M.2.2.1 27) ((M.1 102)).toNatClampNeg a2), (upd (M.2.2.1 28) ((M.1 102)).toNatClampNeg a3), ((M.1 102) + 1)))), (A 28, xc28 Z A (ap_R_segment M ((p8.2), (upd (M.2.2.1 26) ((M.1 102)).toNatClampNeg a1), (upd (M.2.2.1 27) ((M.1 102)).toNatClampNeg a2), (upd (M.2.2.1 28) ((M.1 102)).toNatClampNeg a3), ((M.1 102) + 1))))]) [3, 0, 1, 2] rfl
          have hD9 := hD.sub (ws' := [(A 20, xc20 Z A (ap_R_segment M ((p8.2), (upd (M.2.2.1 26) ((M.1 102)).toNatClampNeg a1), (upd (M.2.2.1 27) ((M.1 102)).toNatClampNeg a2), (upd (M.2.2.1 28) ((M.1 102)).toNatClampNeg a3), ((M.1 102) + 1)))), (A 26, xc26 Z A (ap_R_segment M ((p8.2), (upd (M.2.2.1 26) ((M.1 102)).toNatClampNeg a1), (upd (M.2.2.1 27) ((M.1 102)).toNatClampNeg a2), (upd (M.2.2.1 28) ((M.1 102)).toNatClampNeg a3), ((M.1 102) + 1)))), (A 27, xc27 Z A (ap_R_segment M ((p8.2), (upd (M.2.2.1 26) ((M.1 102)).toNatClampNeg a1), (upd (M.2.2.1 27) ((M.1 102)).toNatClampNeg a2), (upd (M.2.2.1 28) ((M.1 102)).toNatClampNeg a3), ((M.1 102) + 1)))), (A 28, xc28 Z A (ap_R_segment M ((p8.2), (upd (M.2.2.1 26) ((M.1 102)).toNatClampNeg a1), (upd (M.2.2.1 27) ((M.1 102)).toNatClampNeg a2), (upd (M.2.2.1 28) ((M.1 102)).toNatClampNeg a3), ((M.1 102) + 1))))]) [3, 0, 1, 2] (by decide) rfl
          exact W.iret hx hb hr (fun t ht hW => ⟨⟨((M.1 102) + 1), ((p8.2), (upd (M.2.2.1 26) ((M.1 102)).toNatClampNeg a1), (upd (M.2.2.1 27) ((M.1 102)).toNatClampNeg a2), (upd (M.2.2.1 28) ((M.1 102)).toNatClampNeg a3), ((M.1 102) + 1)), rfl, (by rw [F_R_segment, ← hz1, F_R_segment_k1, ← hj2, F_R_segment_k3, ← hj4, F_R_segment_k5, ← hu6, F_R_segment_k6, if_pos h9, if_pos h10]), xE_at hP9 hK hD9 ht hW⟩, hS.F ht⟩) hS.2.2 d_R_segment_119
        · refine lv_aload_n hx hb d_R_segment_68 rfl (lv_at hl 1 rfl) ?_
          refine lv_iconst (v := 0) hx hb d_R_segment_69 (by decide) ?_
          refine va_put (D := (dC, dI)) (ci := 10) (v := .int 0) (ty := .int) (C := "CentrifugeUnitModel") (T := xF10) (N := 45) hx hb htt xin10 xT10 xTo10 xNm10 hown hK hP hD hS 3 rfl rfl 10 (by decide) (htt _ tw_789) (fun _ h9 => h9) rfl (by decide +kernel) rfl rfl (Nat.le_of_ble_eq_true rfl) d_R_segment_70 (fun H locs hP hD hS => ?_)
          have hP : va_P (dC, dI) xcl [(A 26, .inl (Z 0, 12, .inl (M.2.2.1 26))), (A 27, .inl (Z 0, 12, .inl (M.2.2.1 27))), (A 28, .inl (Z 0, 12, .inl (M.2.2.1 28))), (A 20, .inr (10, [.int (p8.2), .ref (A 21), .ref (A 22), .ref (A 23), .ref (A 24), .ref (A 25), .int (M.1 101), .ref (A 26), .ref (A 27), .ref (A 28), .int 0, .long (M.2.1 100), .int (M.1 103), .int (M.1 104), .int (M.1 105), .int (M.1 106), .int (M.1 107), .int (M.1 108), .long (M.2.1 101), .long (M.2.1 102), .long (M.2.1 103), .int (M.1 109), .int (M.1 110), .int (M.1 111), .int (M.1 112), .int (M.1 113), .long (M.2.1 104), .long (M.2.1 105), .long (M.2.1 106), .int (M.1 114), .int (M.1 115), .int (M.1 116), .int (M.1 117), .int (M.1 118), .int (M.1 119), .int (M.1 120), .int (M.1 121), .int (M.1 122), .int (M.1 123), .int (M.1 124), .long (M.2.1 107), .int (M.1 125), .ref (A 29), .ref (A 30), .ref (A 31)]))] H := hP
          have hD : va_D AA [(A 26, .inl (Z 0, 12, .inl (M.2.2.1 26))), (A 27, .inl (Z 0, 12, .inl (M.2.2.1 27))), (A 28, .inl (Z 0, 12, .inl (M.2.2.1 28))), (A 20, .inr (10, [.int (p8.2), .ref (A 21), .ref (A 22), .ref (A 23), .ref (A 24), .ref (A 25), .int (M.1 101), .ref (A 26), .ref (A 27), .ref (A 28), .int 0, .long (M.2.1 100), .int (M.1 103), .int (M.1 104), .int (M.1 105), .int (M.1 106), .int (M.1 107), .int (M.1 108), .long (M.2.1 101), .long (M.2.1 102), .long (M.2.1 103), .int (M.1 109), .int (M.1 110), .int (M.1 111), .int (M.1 112), .int (M.1 113), .long (M.2.1 104), .long (M.2.1 105), .long (M.2.1 106), .int (M.1 114), .int (M.1 115), .int (M.1 116), .int (M.1 117), .int (M.1 118), .int (M.1 119), .int (M.1 120), .int (M.1 121), .int (M.1 122), .int (M.1 123), .int (M.1 124), .long (M.2.1 107), .int (M.1 125), .ref (A 29), .ref (A 30), .ref (A 31)]))] := hD
          refine lv_iconst (v := 0) hx hb d_R_segment_73 (by decide) ?_
          have hP9 := hP.sub (ws' := [(A 20, xc20 Z A (ap_R_segment M ((p8.2), (M.2.2.1 26), (M.2.2.1 27), (M.2.2.1 28), 0))), (A 26, xc26 Z A (ap_R_segment M ((p8.2), (M.2.2.1 26), (M.2.2.1 27), (M.2.2.1 28), 0))), (A 27, xc27 Z A (ap_R_segment M ((p8.2), (M.2.2.1 26), (M.2.2.1 27), (M.2.2.1 28), 0))), (A 28, xc28 Z A (ap_R_segment M ((p8.2), (M.2.2.1 26), (M.2.2.1 27), (M.2.2.1 28), 0)))]) [3, 0, 1, 2] rfl
          have hD9 := hD.sub (ws' := [(A 20, xc20 Z A (ap_R_segment M ((p8.2), (M.2.2.1 26), (M.2.2.1 27), (M.2.2.1 28), 0))), (A 26, xc26 Z A (ap_R_segment M ((p8.2), (M.2.2.1 26), (M.2.2.1 27), (M.2.2.1 28), 0))), (A 27, xc27 Z A (ap_R_segment M ((p8.2), (M.2.2.1 26), (M.2.2.1 27), (M.2.2.1 28), 0))), (A 28, xc28 Z A (ap_R_segment M ((p8.2), (M.2.2.1 26), (M.2.2.1 27), (M.2.2.1 28), 0)))]) [3, 0, 1, 2] (by decide) rfl
          exact W.iret hx hb hr (fun t ht hW => ⟨⟨0, ((p8.2), (M.2.2.1 26), (M.2.2.1 27), (M.2.2.1 28), 0), rfl, (by rw [F_R_segment, ← hz1, F_R_segment_k1, ← hj2, F_R_segment_k3, ← hj4, F_R_segment_k5, ← hu6, F_R_segment_k6, if_pos h9, if_neg h10]), xE_at hP9 hK hD9 ht hW⟩, hS.F ht⟩) hS.2.2 d_R_segment_74
      · refine lv_iconst (v := 0) hx hb d_R_segment_62 (by decide) ?_
        have hP9 := hP.sub (ws' := [(A 20, xc20 Z A (ap_R_segment M ((p8.2), (M.2.2.1 26), (M.2.2.1 27), (M.2.2.1 28), (M.1 102)))), (A 26, xc26 Z A (ap_R_segment M ((p8.2), (M.2.2.1 26), (M.2.2.1 27), (M.2.2.1 28), (M.1 102)))), (A 27, xc27 Z A (ap_R_segment M ((p8.2), (M.2.2.1 26), (M.2.2.1 27), (M.2.2.1 28), (M.1 102)))), (A 28, xc28 Z A (ap_R_segment M ((p8.2), (M.2.2.1 26), (M.2.2.1 27), (M.2.2.1 28), (M.1 102))))]) [3, 0, 1, 2] rfl
        have hD9 := hD.sub (ws' := [(A 20, xc20 Z A (ap_R_segment M ((p8.2), (M.2.2.1 26), (M.2.2.1 27), (M.2.2.1 28), (M.1 102)))), (A 26, xc26 Z A (ap_R_segment M ((p8.2), (M.2.2.1 26), (M.2.2.1 27), (M.2.2.1 28), (M.1 102)))), (A 27, xc27 Z A (ap_R_segment M ((p8.2), (M.2.2.1 26), (M.2.2.1 27), (M.2.2.1 28), (M.1 102)))), (A 28, xc28 Z A (ap_R_segment M ((p8.2), (M.2.2.1 26), (M.2.2.1 27), (M.2.2.1 28), (M.1 102))))]) [3, 0, 1, 2] (by decide) rfl
        exact W.iret hx hb hr (fun t ht hW => ⟨⟨0, ((p8.2), (M.2.2.1 26), (M.2.2.1 27), (M.2.2.1 28), (M.1 102)), rfl, (by rw [F_R_segment, ← hz1, F_R_segment_k1, ← hj2, F_R_segment_k3, ← hj4, F_R_segment_k5, ← hu6, F_R_segment_k6, if_neg h9]), xE_at hP9 hK hD9 ht hW⟩, hS.F ht⟩) hS.2.2 d_R_segment_63
abbrev bc_R_rotor : ByteArray := prog_12_method_7_code
def y_R_rotor : MethodName := ⟨"CentrifugeUnitModel", "rotor", "(IIIII)V"⟩
theorem d_R_rotor_0 : decode bc_R_rotor 0 = .ok (.iload_n 1, 1) := by decide +kernel
theorem d_R_rotor_1 : decode bc_R_rotor 1 = .ok (.i2l, 1) := by decide +kernel
theorem d_R_rotor_2 : decode bc_R_rotor 2 = .ok (.lconst 0, 1) := by decide +kernel
theorem d_R_rotor_3 : decode bc_R_rotor 3 = .ok (.ldc2_w 77, 3) := by decide +kernel
theorem d_R_rotor_6 : decode bc_R_rotor 6 = .ok (.invokestatic 79, 3) := by decide +kernel
theorem d_R_rotor_9 : decode bc_R_rotor 9 = .ok (.ifCond .eq 57, 3) := by decide +kernel
theorem d_R_rotor_12 : decode bc_R_rotor 12 = .ok (.iload_n 2, 1) := by decide +kernel
theorem d_R_rotor_13 : decode bc_R_rotor 13 = .ok (.i2l, 1) := by decide +kernel
theorem d_R_rotor_14 : decode bc_R_rotor 14 = .ok (.lconst 0, 1) := by decide +kernel
theorem d_R_rotor_15 : decode bc_R_rotor 15 = .ok (.ldc2_w 83, 3) := by decide +kernel
theorem d_R_rotor_18 : decode bc_R_rotor 18 = .ok (.invokestatic 79, 3) := by decide +kernel
theorem d_R_rotor_21 : decode bc_R_rotor 21 = .ok (.ifCond .eq 45, 3) := by decide +kernel
theorem d_R_rotor_24 : decode bc_R_rotor 24 = .ok (.iload_n 3, 1) := by decide +kernel
theorem d_R_rotor_25 : decode bc_R_rotor 25 = .ok (.i2l, 1) := by decide +kernel
theorem d_R_rotor_26 : decode bc_R_rotor 26 = .ok (.ldc2_w 85, 3) := by decide +kernel
theorem d_R_rotor_29 : decode bc_R_rotor 29 = .ok (.ldc2_w 87, 3) := by decide +kernel
theorem d_R_rotor_32 : decode bc_R_rotor 32 = .ok (.invokestatic 79, 3) := by decide +kernel
theorem d_R_rotor_35 : decode bc_R_rotor 35 = .ok (.ifCond .eq 31, 3) := by decide +kernel
theorem d_R_rotor_38 : decode bc_R_rotor 38 = .ok (.iload 4, 2) := by decide +kernel
theorem d_R_rotor_40 : decode bc_R_rotor 40 = .ok (.i2l, 1) := by decide +kernel
theorem d_R_rotor_41 : decode bc_R_rotor 41 = .ok (.ldc2_w 89, 3) := by decide +kernel
theorem d_R_rotor_44 : decode bc_R_rotor 44 = .ok (.ldc2_w 91, 3) := by decide +kernel
theorem d_R_rotor_47 : decode bc_R_rotor 47 = .ok (.invokestatic 79, 3) := by decide +kernel
theorem d_R_rotor_50 : decode bc_R_rotor 50 = .ok (.ifCond .eq 16, 3) := by decide +kernel
theorem d_R_rotor_53 : decode bc_R_rotor 53 = .ok (.iload 5, 2) := by decide +kernel
theorem d_R_rotor_55 : decode bc_R_rotor 55 = .ok (.i2l, 1) := by decide +kernel
theorem d_R_rotor_56 : decode bc_R_rotor 56 = .ok (.lconst 1, 1) := by decide +kernel
theorem d_R_rotor_57 : decode bc_R_rotor 57 = .ok (.ldc2_w 93, 3) := by decide +kernel
theorem d_R_rotor_60 : decode bc_R_rotor 60 = .ok (.invokestatic 79, 3) := by decide +kernel
theorem d_R_rotor_63 : decode bc_R_rotor 63 = .ok (.ifCond .ne 7, 3) := by decide +kernel
theorem d_R_rotor_66 : decode bc_R_rotor 66 = .ok (.iconst 1, 1) := by decide +kernel
theorem d_R_rotor_67 : decode bc_R_rotor 67 = .ok (.goto 4, 3) := by decide +kernel
theorem d_R_rotor_70 : decode bc_R_rotor 70 = .ok (.iconst 0, 1) := by decide +kernel
theorem d_R_rotor_71 : decode bc_R_rotor 71 = .ok (.istore 6, 2) := by decide +kernel
theorem d_R_rotor_73 : decode bc_R_rotor 73 = .ok (.iconst 0, 1) := by decide +kernel
theorem d_R_rotor_74 : decode bc_R_rotor 74 = .ok (.istore 7, 2) := by decide +kernel
theorem d_R_rotor_76 : decode bc_R_rotor 76 = .ok (.iload 7, 2) := by decide +kernel
theorem d_R_rotor_78 : decode bc_R_rotor 78 = .ok (.iconst 4, 1) := by decide +kernel
theorem d_R_rotor_79 : decode bc_R_rotor 79 = .ok (.if_icmp .ge 48, 3) := by decide +kernel
theorem d_R_rotor_82 : decode bc_R_rotor 82 = .ok (.iload 6, 2) := by decide +kernel
theorem d_R_rotor_84 : decode bc_R_rotor 84 = .ok (.ifCond .ne 43, 3) := by decide +kernel
theorem d_R_rotor_87 : decode bc_R_rotor 87 = .ok (.iload 7, 2) := by decide +kernel
theorem d_R_rotor_89 : decode bc_R_rotor 89 = .ok (.iload_n 1, 1) := by decide +kernel
theorem d_R_rotor_90 : decode bc_R_rotor 90 = .ok (.if_icmp .eq 28, 3) := by decide +kernel
theorem d_R_rotor_93 : decode bc_R_rotor 93 = .ok (.aload_n 0, 1) := by decide +kernel
theorem d_R_rotor_94 : decode bc_R_rotor 94 = .ok (.getfield 7, 3) := by decide +kernel
theorem d_R_rotor_97 : decode bc_R_rotor 97 = .ok (.iload 7, 2) := by decide +kernel
theorem d_R_rotor_99 : decode bc_R_rotor 99 = .ok (.baload, 1) := by decide +kernel
theorem d_R_rotor_100 : decode bc_R_rotor 100 = .ok (.ifCond .eq 18, 3) := by decide +kernel
theorem d_R_rotor_103 : decode bc_R_rotor 103 = .ok (.aload_n 0, 1) := by decide +kernel
theorem d_R_rotor_104 : decode bc_R_rotor 104 = .ok (.getfield 13, 3) := by decide +kernel
theorem d_R_rotor_107 : decode bc_R_rotor 107 = .ok (.iload 7, 2) := by decide +kernel
theorem d_R_rotor_109 : decode bc_R_rotor 109 = .ok (.iaload, 1) := by decide +kernel
theorem d_R_rotor_110 : decode bc_R_rotor 110 = .ok (.iload_n 2, 1) := by decide +kernel
theorem d_R_rotor_111 : decode bc_R_rotor 111 = .ok (.if_icmp .ne 7, 3) := by decide +kernel
theorem d_R_rotor_114 : decode bc_R_rotor 114 = .ok (.iconst 1, 1) := by decide +kernel
theorem d_R_rotor_115 : decode bc_R_rotor 115 = .ok (.goto 4, 3) := by decide +kernel
theorem d_R_rotor_118 : decode bc_R_rotor 118 = .ok (.iconst 0, 1) := by decide +kernel
theorem d_R_rotor_119 : decode bc_R_rotor 119 = .ok (.istore 6, 2) := by decide +kernel
theorem d_R_rotor_121 : decode bc_R_rotor 121 = .ok (.iinc 7 1, 3) := by decide +kernel
theorem d_R_rotor_124 : decode bc_R_rotor 124 = .ok (.goto (-48), 3) := by decide +kernel
theorem d_R_rotor_127 : decode bc_R_rotor 127 = .ok (.aload_n 0, 1) := by decide +kernel
theorem d_R_rotor_128 : decode bc_R_rotor 128 = .ok (.iload 6, 2) := by decide +kernel
theorem d_R_rotor_130 : decode bc_R_rotor 130 = .ok (.iload 6, 2) := by decide +kernel
theorem d_R_rotor_132 : decode bc_R_rotor 132 = .ok (.ifCond .ne 21, 3) := by decide +kernel
theorem d_R_rotor_135 : decode bc_R_rotor 135 = .ok (.aload_n 0, 1) := by decide +kernel
theorem d_R_rotor_136 : decode bc_R_rotor 136 = .ok (.getfield 95, 3) := by decide +kernel
theorem d_R_rotor_139 : decode bc_R_rotor 139 = .ok (.ifCond .ne 10, 3) := by decide +kernel
theorem d_R_rotor_142 : decode bc_R_rotor 142 = .ok (.aload_n 0, 1) := by decide +kernel
theorem d_R_rotor_143 : decode bc_R_rotor 143 = .ok (.getfield 45, 3) := by decide +kernel
theorem d_R_rotor_146 : decode bc_R_rotor 146 = .ok (.ifCond .ne 7, 3) := by decide +kernel
theorem d_R_rotor_149 : decode bc_R_rotor 149 = .ok (.iconst 1, 1) := by decide +kernel
theorem d_R_rotor_150 : decode bc_R_rotor 150 = .ok (.goto 4, 3) := by decide +kernel
theorem d_R_rotor_153 : decode bc_R_rotor 153 = .ok (.iconst 0, 1) := by decide +kernel
theorem d_R_rotor_154 : decode bc_R_rotor 154 = .ok (.invokevirtual 98, 3) := by decide +kernel
theorem d_R_rotor_157 : decode bc_R_rotor 157 = .ok (.ifCond .eq 4, 3) := by decide +kernel
theorem d_R_rotor_160 : decode bc_R_rotor 160 = .ok (.return_, 1) := by decide +kernel
theorem d_R_rotor_161 : decode bc_R_rotor 161 = .ok (.aload_n 0, 1) := by decide +kernel
theorem d_R_rotor_162 : decode bc_R_rotor 162 = .ok (.getfield 7, 3) := by decide +kernel
theorem d_R_rotor_165 : decode bc_R_rotor 165 = .ok (.iload_n 1, 1) := by decide +kernel
theorem d_R_rotor_166 : decode bc_R_rotor 166 = .ok (.iconst 1, 1) := by decide +kernel
theorem d_R_rotor_167 : decode bc_R_rotor 167 = .ok (.bastore, 1) := by decide +kernel
theorem d_R_rotor_168 : decode bc_R_rotor 168 = .ok (.aload_n 0, 1) := by decide +kernel
theorem d_R_rotor_169 : decode bc_R_rotor 169 = .ok (.getfield 13, 3) := by decide +kernel
theorem d_R_rotor_172 : decode bc_R_rotor 172 = .ok (.iload_n 1, 1) := by decide +kernel
theorem d_R_rotor_173 : decode bc_R_rotor 173 = .ok (.iload_n 2, 1) := by decide +kernel
theorem d_R_rotor_174 : decode bc_R_rotor 174 = .ok (.iastore, 1) := by decide +kernel
theorem d_R_rotor_175 : decode bc_R_rotor 175 = .ok (.aload_n 0, 1) := by decide +kernel
theorem d_R_rotor_176 : decode bc_R_rotor 176 = .ok (.getfield 17, 3) := by decide +kernel
theorem d_R_rotor_179 : decode bc_R_rotor 179 = .ok (.iload_n 1, 1) := by decide +kernel
theorem d_R_rotor_180 : decode bc_R_rotor 180 = .ok (.iload_n 3, 1) := by decide +kernel
theorem d_R_rotor_181 : decode bc_R_rotor 181 = .ok (.iastore, 1) := by decide +kernel
theorem d_R_rotor_182 : decode bc_R_rotor 182 = .ok (.aload_n 0, 1) := by decide +kernel
theorem d_R_rotor_183 : decode bc_R_rotor 183 = .ok (.getfield 20, 3) := by decide +kernel
theorem d_R_rotor_186 : decode bc_R_rotor 186 = .ok (.iload_n 1, 1) := by decide +kernel
theorem d_R_rotor_187 : decode bc_R_rotor 187 = .ok (.iload 4, 2) := by decide +kernel
theorem d_R_rotor_189 : decode bc_R_rotor 189 = .ok (.iastore, 1) := by decide +kernel
theorem d_R_rotor_190 : decode bc_R_rotor 190 = .ok (.aload_n 0, 1) := by decide +kernel
theorem d_R_rotor_191 : decode bc_R_rotor 191 = .ok (.getfield 23, 3) := by decide +kernel
theorem d_R_rotor_194 : decode bc_R_rotor 194 = .ok (.iload_n 1, 1) := by decide +kernel
theorem d_R_rotor_195 : decode bc_R_rotor 195 = .ok (.iload 5, 2) := by decide +kernel
theorem d_R_rotor_197 : decode bc_R_rotor 197 = .ok (.iastore, 1) := by decide +kernel
theorem d_R_rotor_198 : decode bc_R_rotor 198 = .ok (.return_, 1) := by decide +kernel
abbrev ap_R_rotor (M : XM) (u : (Int32 × (Nat → Int32) × (Nat → Int32) × (Nat → Int32) × (Nat → Int32) × (Nat → Int32))) : XM := ((va_up M.1 100 (u.1)), M.2.1, (va_up (va_up (va_up (va_up (va_up M.2.2.1 21 (u.2.1)) 22 (u.2.2.1)) 23 (u.2.2.2.1)) 24 (u.2.2.2.2.1)) 25 (u.2.2.2.2.2)), M.2.2.2)
def F_R_rotor_k20 (M : XM) (a1 : Int32) (a2 : Int32) (a3 : Int32) (a4 : Int32) (a5 : Int32) (z1 : Int32) (j2 : Int32) (j4 : Int32 × Int32) (j6 : Int32) (p10 : Int32 × Int32) : (Int32 × (Nat → Int32) × (Nat → Int32) × (Nat → Int32) × (Nat → Int32) × (Nat → Int32)) := (if p10.1 = 0 then ((p10.2), (upd (M.2.2.1 21) (a1).toNatClampNeg 1), (upd (M.2.2.1 22) (a1).toNatClampNeg a2), (upd (M.2.2.1 23) (a1).toNatClampNeg a3), (upd (M.2.2.1 24) (a1).toNatClampNeg a4), (upd (M.2.2.1 25) (a1).toNatClampNeg a5)) else ((p10.2), (M.2.2.1 21), (M.2.2.1 22), (M.2.2.1 23), (M.2.2.1 24), (M.2.2.1 25)))
def F_R_rotor_k19 (M : XM) (a1 : Int32) (a2 : Int32) (a3 : Int32) (a4 : Int32) (a5 : Int32) (z1 : Int32) (j2 : Int32) (j4 : Int32 × Int32) (j6 : Int32) : (Int32 × (Nat → Int32) × (Nat → Int32) × (Nat → Int32) × (Nat → Int32) × (Nat → Int32)) := (F_R_rotor_k20 M a1 a2 a3 a4 a5 z1 j2 j4 j6 (F_R_throwing M (j4.2) j6))
def F_R_rotor_j18 (M : XM) (a1 : Int32) (a2 : Int32) (a3 : Int32) (a4 : Int32) (a5 : Int32) (z1 : Int32) (j2 : Int32) (j4 : Int32 × Int32) : Int32 := (if (j4.2) = 0 then (if (M.1 110) = 0 then (if (M.1 109) = 0 then 1 else 0) else 1) else 0)
def F_R_rotor_k17 (M : XM) (a1 : Int32) (a2 : Int32) (a3 : Int32) (a4 : Int32) (a5 : Int32) (z1 : Int32) (j2 : Int32) (j4 : Int32 × Int32) : (Int32 × (Nat → Int32) × (Nat → Int32) × (Nat → Int32) × (Nat → Int32) × (Nat → Int32)) := (F_R_rotor_k19 M a1 a2 a3 a4 a5 z1 j2 j4 (F_R_rotor_j18 M a1 a2 a3 a4 a5 z1 j2 j4))
def F_R_rotor_k15 (M : XM) (a1 : Int32) (a2 : Int32) (a3 : Int32) (a4 : Int32) (a5 : Int32) (z1 : Int32) (j2 : Int32) (j16 : Int32) (j19 : Int32) (j22 : Int32) (j25 : Int32) : Int32 × Int32 := (4, j25)
def F_R_rotor_j14 (M : XM) (a1 : Int32) (a2 : Int32) (a3 : Int32) (a4 : Int32) (a5 : Int32) (z1 : Int32) (j2 : Int32) (j16 : Int32) (j19 : Int32) (j22 : Int32) : Int32 := (if 3 = a1 then 0 else (if ((M.2.2.1 21) 3) = 0 then 0 else (if ((M.2.2.1 22) 3) = a2 then 1 else 0)))
def F_R_rotor_k13 (M : XM) (a1 : Int32) (a2 : Int32) (a3 : Int32) (a4 : Int32) (a5 : Int32) (z1 : Int32) (j2 : Int32) (j16 : Int32) (j19 : Int32) (j22 : Int32) : Int32 × Int32 := (if j22 = 0 then (F_R_rotor_k15 M a1 a2 a3 a4 a5 z1 j2 j16 j19 j22 (F_R_rotor_j14 M a1 a2 a3 a4 a5 z1 j2 j16 j19 j22)) else (3, j22))
def F_R_rotor_j12 (M : XM) (a1 : Int32) (a2 : Int32) (a3 : Int32) (a4 : Int32) (a5 : Int32) (z1 : Int32) (j2 : Int32) (j16 : Int32) (j19 : Int32) : Int32 := (if 2 = a1 then 0 else (if ((M.2.2.1 21) 2) = 0 then 0 else (if ((M.2.2.1 22) 2) = a2 then 1 else 0)))
def F_R_rotor_k11 (M : XM) (a1 : Int32) (a2 : Int32) (a3 : Int32) (a4 : Int32) (a5 : Int32) (z1 : Int32) (j2 : Int32) (j16 : Int32) (j19 : Int32) : Int32 × Int32 := (if j19 = 0 then (F_R_rotor_k13 M a1 a2 a3 a4 a5 z1 j2 j16 j19 (F_R_rotor_j12 M a1 a2 a3 a4 a5 z1 j2 j16 j19)) else (2, j19))
def F_R_rotor_j10 (M : XM) (a1 : Int32) (a2 : Int32) (a3 : Int32) (a4 : Int32) (a5 : Int32) (z1 : Int32) (j2 : Int32) (j16 : Int32) : Int32 := (if 1 = a1 then 0 else (if ((M.2.2.1 21) 1) = 0 then 0 else (if ((M.2.2.1 22) 1) = a2 then 1 else 0)))
def F_R_rotor_k9 (M : XM) (a1 : Int32) (a2 : Int32) (a3 : Int32) (a4 : Int32) (a5 : Int32) (z1 : Int32) (j2 : Int32) (j16 : Int32) : Int32 × Int32 := (if j16 = 0 then (F_R_rotor_k11 M a1 a2 a3 a4 a5 z1 j2 j16 (F_R_rotor_j10 M a1 a2 a3 a4 a5 z1 j2 j16)) else (1, j16))
def F_R_rotor_j8 (M : XM) (a1 : Int32) (a2 : Int32) (a3 : Int32) (a4 : Int32) (a5 : Int32) (z1 : Int32) (j2 : Int32) : Int32 := (if 0 = a1 then 0 else (if ((M.2.2.1 21) 0) = 0 then 0 else (if ((M.2.2.1 22) 0) = a2 then 1 else 0)))
def F_R_rotor_j16 (M : XM) (a1 : Int32) (a2 : Int32) (a3 : Int32) (a4 : Int32) (a5 : Int32) (z1 : Int32) (j2 : Int32) : Int32 × Int32 := (if j2 = 0 then (F_R_rotor_k9 M a1 a2 a3 a4 a5 z1 j2 (F_R_rotor_j8 M a1 a2 a3 a4 a5 z1 j2)) else (0, j2))
def F_R_rotor_k7 (M : XM) (a1 : Int32) (a2 : Int32) (a3 : Int32) (a4 : Int32) (a5 : Int32) (z1 : Int32) (j2 : Int32) : (Int32 × (Nat → Int32) × (Nat → Int32) × (Nat → Int32) × (Nat → Int32) × (Nat → Int32)) := (F_R_rotor_k17 M a1 a2 a3 a4 a5 z1 j2 (F_R_rotor_j16 M a1 a2 a3 a4 a5 z1 j2))
def F_R_rotor_k5 (M : XM) (a1 : Int32) (a2 : Int32) (a3 : Int32) (a4 : Int32) (a5 : Int32) (z1 : Int32) (z40 : Int32) (z42 : Int32) (z44 : Int32) (z46 : Int32) : Int32 := (if z46 = 0 then 1 else 0)
def F_R_rotor_k4 (M : XM) (a1 : Int32) (a2 : Int32) (a3 : Int32) (a4 : Int32) (a5 : Int32) (z1 : Int32) (z40 : Int32) (z42 : Int32) (z44 : Int32) : Int32 := (if z44 = 0 then 1 else (F_R_rotor_k5 M a1 a2 a3 a4 a5 z1 z40 z42 z44 (F_R_in M (a5).toInt64 1 1000)))
def F_R_rotor_k3 (M : XM) (a1 : Int32) (a2 : Int32) (a3 : Int32) (a4 : Int32) (a5 : Int32) (z1 : Int32) (z40 : Int32) (z42 : Int32) : Int32 := (if z42 = 0 then 1 else (F_R_rotor_k4 M a1 a2 a3 a4 a5 z1 z40 z42 (F_R_in M (a4).toInt64 100 20000)))
def F_R_rotor_k2 (M : XM) (a1 : Int32) (a2 : Int32) (a3 : Int32) (a4 : Int32) (a5 : Int32) (z1 : Int32) (z40 : Int32) : Int32 := (if z40 = 0 then 1 else (F_R_rotor_k3 M a1 a2 a3 a4 a5 z1 z40 (F_R_in M (a3).toInt64 10 300)))
def F_R_rotor_j6 (M : XM) (a1 : Int32) (a2 : Int32) (a3 : Int32) (a4 : Int32) (a5 : Int32) (z1 : Int32) : Int32 := (if z1 = 0 then 1 else (F_R_rotor_k2 M a1 a2 a3 a4 a5 z1 (F_R_in M (a2).toInt64 0 255)))
def F_R_rotor_k1 (M : XM) (a1 : Int32) (a2 : Int32) (a3 : Int32) (a4 : Int32) (a5 : Int32) (z1 : Int32) : (Int32 × (Nat → Int32) × (Nat → Int32) × (Nat → Int32) × (Nat → Int32) × (Nat → Int32)) := (F_R_rotor_k7 M a1 a2 a3 a4 a5 z1 (F_R_rotor_j6 M a1 a2 a3 a4 a5 z1))
def F_R_rotor (M : XM) (a1 : Int32) (a2 : Int32) (a3 : Int32) (a4 : Int32) (a5 : Int32) : (Int32 × (Nat → Int32) × (Nat → Int32) × (Nat → Int32) × (Nat → Int32) × (Nat → Int32)) := (F_R_rotor_k1 M a1 a2 a3 a4 a5 (F_R_in M (a1).toInt64 0 3))
set_option maxHeartbeats 4000000 in
set_option maxRecDepth 100000 in
theorem c_R_rotor (l : Launch) (dC : Nat → ClassId) (dI : Nat → Nat → Nat) (Z : Nat → ClassId) (A : Nat → Nat) (sz : Nat) (M : XM) (a1 : Int32) (a2 : Int32) (a3 : Int32) (a4 : Int32) (a5 : Int32) : Met l y_R_rotor (.code y_R_rotor bc_R_rotor 8 none :: xw) ({ frames := 1, cells := 0, slots := 0, locals := 25 }) (va_Pc [.ref (A 20), .int a1, .int a2, .int a3, .int a4, .int a5] (xB (dC, dI) xcl (xty Z) sz [(A 20, xc20 Z A M), (A 21, xc21 Z A M), (A 22, xc22 Z A M), (A 23, xc23 Z A M), (A 24, xc24 Z A M), (A 25, xc25 Z A M)])) (va_Qv (fun u : (Int32 × (Nat → Int32) × (Nat → Int32) × (Nat → Int32) × (Nat → Int32) × (Nat → Int32)) => u = F_R_rotor M a1 a2 a3 a4 a5) (fun u => xE (dC, dI) xcl (xty Z) (va_A [(A 20, xc20 Z A M), (A 21, xc21 Z A M), (A 22, xc22 Z A M), (A 23, xc23 Z A M), (A 24, xc24 Z A M), (A 25, xc25 Z A M)] sz) [(A 20, xc20 Z A (ap_R_rotor M u)), (A 21, xc21 Z A (ap_R_rotor M u)), (A 22, xc22 Z A (ap_R_rotor M u)), (A 23, xc23 Z A (ap_R_rotor M u)), (A 24, xc24 Z A (ap_R_rotor M u)), (A 25, xc25 Z A (ap_R_rotor M u))]) (va_A [(A 20, xc20 Z A M), (A 21, xc21 Z A M), (A 22, xc22 Z A M), (A 23, xc23 Z A M), (A 24, xc24 Z A M), (A 25, xc25 Z A M)] sz)) 0 0 (va_A [(A 20, xc20 Z A M), (A 21, xc21 Z A M), (A 22, xc22 Z A M), (A 23, xc23 Z A M), (A 24, xc24 Z A M), (A 25, xc25 Z A M)] sz) := by
  refine Met.ofW (cc := bc_R_rotor) (maxL := 8) (ret := none) (by decide) rfl ?_
  intro p e s m args below meth c s₁ B hml hv
  obtain ⟨rfl, hsz, hP, hK, hD0, hq⟩ := hv
  have hx := B.exec
  have hb := B.bytes
  have hr := B.returns
  have hts := atoms_spec (ws := (.code y_R_rotor bc_R_rotor 8 none :: xw)) B.pre
  have htt : ∀ w ∈ xw, w.before _ s = true := fun w h => hts w (List.mem_cons_of_mem _ h)
  have hown : s.vm.findClass "CentrifugeUnitModel" = some m.cls := findClass_of_methodNamed B.named
  have hlocks := B.notSynchronized
  subst hsz
  have hD := hD0.self (sz := s.heap.size)
  generalize hAe : va_A [(A 20, xc20 Z A M), (A 21, xc21 Z A M), (A 22, xc22 Z A M), (A 23, xc23 Z A M), (A 24, xc24 Z A M), (A 25, xc25 Z A M)] s.heap.size = AA at hD ⊢
  have hA : ∀ q : Nat, s.heap.size ≤ q → AA q := fun q h => by rw [← hAe]; exact Or.inr h
  have hS : va_S AA s.heap s.heap [] := va_S.rf
  have hP : va_P (dC, dI) xcl [(A 20, .inr (10, [.int (M.1 100), .ref (A 21), .ref (A 22), .ref (A 23), .ref (A 24), .ref (A 25), .int (M.1 101), .ref (A 26), .ref (A 27), .ref (A 28), .int (M.1 102), .long (M.2.1 100), .int (M.1 103), .int (M.1 104), .int (M.1 105), .int (M.1 106), .int (M.1 107), .int (M.1 108), .long (M.2.1 101), .long (M.2.1 102), .long (M.2.1 103), .int (M.1 109), .int (M.1 110), .int (M.1 111), .int (M.1 112), .int (M.1 113), .long (M.2.1 104), .long (M.2.1 105), .long (M.2.1 106), .int (M.1 114), .int (M.1 115), .int (M.1 116), .int (M.1 117), .int (M.1 118), .int (M.1 119), .int (M.1 120), .int (M.1 121), .int (M.1 122), .int (M.1 123), .int (M.1 124), .long (M.2.1 107), .int (M.1 125), .ref (A 29), .ref (A 30), .ref (A 31)])), (A 21, .inl (Z 2, 4, .inl (M.2.2.1 21))), (A 22, .inl (Z 0, 4, .inl (M.2.2.1 22))), (A 23, .inl (Z 0, 4, .inl (M.2.2.1 23))), (A 24, .inl (Z 0, 4, .inl (M.2.2.1 24))), (A 25, .inl (Z 0, 4, .inl (M.2.2.1 25)))] s.heap := hP
  have hD : va_D AA [(A 20, .inr (10, [.int (M.1 100), .ref (A 21), .ref (A 22), .ref (A 23), .ref (A 24), .ref (A 25), .int (M.1 101), .ref (A 26), .ref (A 27), .ref (A 28), .int (M.1 102), .long (M.2.1 100), .int (M.1 103), .int (M.1 104), .int (M.1 105), .int (M.1 106), .int (M.1 107), .int (M.1 108), .long (M.2.1 101), .long (M.2.1 102), .long (M.2.1 103), .int (M.1 109), .int (M.1 110), .int (M.1 111), .int (M.1 112), .int (M.1 113), .long (M.2.1 104), .long (M.2.1 105), .long (M.2.1 106), .int (M.1 114), .int (M.1 115), .int (M.1 116), .int (M.1 117), .int (M.1 118), .int (M.1 119), .int (M.1 120), .int (M.1 121), .int (M.1 122), .int (M.1 123), .int (M.1 124), .long (M.2.1 107), .int (M.1 125), .ref (A 29), .ref (A 30), .ref (A 31)])), (A 21, .inl (Z 2, 4, .inl (M.2.2.1 21))), (A 22, .inl (Z 0, 4, .inl (M.2.2.1 22))), (A 23, .inl (Z 0, 4, .inl (M.2.2.1 23))), (A 24, .inl (Z 0, 4, .inl (M.2.2.1 24))), (A 25, .inl (Z 0, 4, .inl (M.2.2.1 25)))] := hD
  have hl := lv_entry ([.ref (A 20), .int a1, .int a2, .int a3, .int a4, .int a5]) (n := 8) (Nat.le_of_ble_eq_true rfl)
  rw [lg_entry_eq]
  generalize (lg_sl ([.ref (A 20), .int a1, .int a2, .int a3, .int a4, .int a5]) ++ List.replicate (8 - (lg_sl ([.ref (A 20), .int a1, .int a2, .int a3, .int a4, .int a5])).length) Slot.unset).toArray = ls at hl ⊢
  have hl : lv_has ls 8 [(0, .ref (A 20)), (1, .int a1), (2, .int a2), (3, .int a3), (4, .int a4), (5, .int a5)] := hl
  refine lv_iload_n hx hb d_R_rotor_0 rfl (lv_at hl 1 rfl) ?_
  refine lv_i2l (v := (a1).toInt64) hx hb d_R_rotor_1 rfl ?_
  refine lv_lconst (v := 0) hx hb d_R_rotor_2 (by decide) ?_
  refine lv_ldc2 (v := 3) hx hb hown (htt _ tw_924) d_R_rotor_3 ?_
  have hPc := hP.sub (ws' := []) [] rfl
  have hDc := hD.sub (ws' := []) [] (by decide) rfl
  refine xk_p (va_runS (As := [.long (a1).toInt64, .long 0, .long 3]) (rest := []) ⟨hx, hb, hml, hown, hts⟩ (c_R_in l dC dI Z A _ M (a1).toInt64 0 3) (va_cwS 3 hts (xw_S _ tw_925 tw_926 tw_12 tw_927) rfl rfl rfl (by decide +kernel) ⟨Nat.le_of_ble_eq_true rfl, Nat.le_of_ble_eq_true rfl⟩) ⟨xB_blind, fun U hU hW => ⟨rfl, xB_at hPc hK hDc hq U hU hW⟩⟩ rfl rfl hl.1 rfl (lv_room (Nat.le_of_ble_eq_true rfl)) d_R_rotor_6 ⟨Nat.le_of_ble_eq_true rfl, Nat.le_of_ble_eq_true rfl⟩) ?_
  refine lv_topi (fun z1 hz1 => ?_)
  refine xj_p 8 71 (fun q9 : Int32 => [(0, .ref (A 20)), (1, .int a1), (2, .int a2), (3, .int a3), (4, .int a4), (5, .int a5)]) (fun q9 : Int32 => [.int q9]) (fun q9 : Int32 => q9 = F_R_rotor_j6 M a1 a2 a3 a4 a5 z1) (fun hJ3 => ?_) (fun ls j2 hl hj2 => ?_)
  · refine lv_if_eq (tgt := 66) hx hb d_R_rotor_9 rfl (fun h39 => ?_) (fun h39 => ?_)
    · refine lv_iconst (v := 1) hx hb d_R_rotor_66 (by decide) ?_
      refine lv_goto (tgt := 71) hx hb d_R_rotor_67 rfl ?_
      exact hJ3 _ 1 (lv_sub hl [0, 1, 2, 3, 4, 5] rfl) (by rw [F_R_rotor_j6, if_pos h39])
    · refine lv_iload_n hx hb d_R_rotor_12 rfl (lv_at hl 2 rfl) ?_
      refine lv_i2l (v := (a2).toInt64) hx hb d_R_rotor_13 rfl ?_
      refine lv_lconst (v := 0) hx hb d_R_rotor_14 (by decide) ?_
      refine lv_ldc2 (v := 255) hx hb hown (htt _ tw_928) d_R_rotor_15 ?_
      have hPc := hP.sub (ws' := []) [] rfl
      have hDc := hD.sub (ws' := []) [] (by decide) rfl
      refine xk_p (va_runS (As := [.long (a2).toInt64, .long 0, .long 255]) (rest := []) ⟨hx, hb, hml, hown, hts⟩ (c_R_in l dC dI Z A _ M (a2).toInt64 0 255) (va_cwS 3 hts (xw_S _ tw_925 tw_926 tw_12 tw_927) rfl rfl rfl (by decide +kernel) ⟨Nat.le_of_ble_eq_true rfl, Nat.le_of_ble_eq_true rfl⟩) ⟨xB_blind, fun U hU hW => ⟨rfl, xB_at hPc hK hDc hq U hU hW⟩⟩ rfl rfl hl.1 rfl (lv_room (Nat.le_of_ble_eq_true rfl)) d_R_rotor_18 ⟨Nat.le_of_ble_eq_true rfl, Nat.le_of_ble_eq_true rfl⟩) ?_
      refine lv_topi (fun z40 hz40 => ?_)
      refine lv_if_eq (tgt := 66) hx hb d_R_rotor_21 rfl (fun h41 => ?_) (fun h41 => ?_)
      · refine lv_iconst (v := 1) hx hb d_R_rotor_66 (by decide) ?_
        refine lv_goto (tgt := 71) hx hb d_R_rotor_67 rfl ?_
        exact hJ3 _ 1 (lv_sub hl [0, 1, 2, 3, 4, 5] rfl) (by rw [F_R_rotor_j6, if_neg h39, ← hz40, F_R_rotor_k2, if_pos h41])
      · refine lv_iload_n hx hb d_R_rotor_24 rfl (lv_at hl 3 rfl) ?_
        refine lv_i2l (v := (a3).toInt64) hx hb d_R_rotor_25 rfl ?_
        refine lv_ldc2 (v := 10) hx hb hown (htt _ tw_929) d_R_rotor_26 ?_
        refine lv_ldc2 (v := 300) hx hb hown (htt _ tw_930) d_R_rotor_29 ?_
        have hPc := hP.sub (ws' := []) [] rfl
        have hDc := hD.sub (ws' := []) [] (by decide) rfl
        refine xk_p (va_runS (As := [.long (a3).toInt64, .long 10, .long 300]) (rest := []) ⟨hx, hb, hml, hown, hts⟩ (c_R_in l dC dI Z A _ M (a3).toInt64 10 300) (va_cwS 3 hts (xw_S _ tw_925 tw_926 tw_12 tw_927) rfl rfl rfl (by decide +kernel) ⟨Nat.le_of_ble_eq_true rfl, Nat.le_of_ble_eq_true rfl⟩) ⟨xB_blind, fun U hU hW => ⟨rfl, xB_at hPc hK hDc hq U hU hW⟩⟩ rfl rfl hl.1 rfl (lv_room (Nat.le_of_ble_eq_true rfl)) d_R_rotor_32 ⟨Nat.le_of_ble_eq_true rfl, Nat.le_of_ble_eq_true rfl⟩) ?_
        refine lv_topi (fun z42 hz42 => ?_)
        refine lv_if_eq (tgt := 66) hx hb d_R_rotor_35 rfl (fun h43 => ?_) (fun h43 => ?_)
        · refine lv_iconst (v := 1) hx hb d_R_rotor_66 (by decide) ?_
          refine lv_goto (tgt := 71) hx hb d_R_rotor_67 rfl ?_
          exact hJ3 _ 1 (lv_sub hl [0, 1, 2, 3, 4, 5] rfl) (by rw [F_R_rotor_j6, if_neg h39, ← hz40, F_R_rotor_k2, if_neg h41, ← hz42, F_R_rotor_k3, if_pos h43])
        · refine lv_iload hx hb d_R_rotor_38 (lv_at hl 4 rfl) ?_
          refine lv_i2l (v := (a4).toInt64) hx hb d_R_rotor_40 rfl ?_
          refine lv_ldc2 (v := 100) hx hb hown (htt _ tw_931) d_R_rotor_41 ?_
          refine lv_ldc2 (v := 20000) hx hb hown (htt _ tw_932) d_R_rotor_44 ?_
          have hPc := hP.sub (ws' := []) [] rfl
          have hDc := hD.sub (ws' := []) [] (by decide) rfl
          refine xk_p (va_runS (As := [.long (a4).toInt64, .long 100, .long 20000]) (rest := []) ⟨hx, hb, hml, hown, hts⟩ (c_R_in l dC dI Z A _ M (a4).toInt64 100 20000) (va_cwS 3 hts (xw_S _ tw_925 tw_926 tw_12 tw_927) rfl rfl rfl (by decide +kernel) ⟨Nat.le_of_ble_eq_true rfl, Nat.le_of_ble_eq_true rfl⟩) ⟨xB_blind, fun U hU hW => ⟨rfl, xB_at hPc hK hDc hq U hU hW⟩⟩ rfl rfl hl.1 rfl (lv_room (Nat.le_of_ble_eq_true rfl)) d_R_rotor_47 ⟨Nat.le_of_ble_eq_true rfl, Nat.le_of_ble_eq_true rfl⟩) ?_
          refine lv_topi (fun z44 hz44 => ?_)
          refine lv_if_eq (tgt := 66) hx hb d_R_rotor_50 rfl (fun h45 => ?_) (fun h45 => ?_)
          · refine lv_iconst (v := 1) hx hb d_R_rotor_66 (by decide) ?_
            refine lv_goto (tgt := 71) hx hb d_R_rotor_67 rfl ?_
            exact hJ3 _ 1 (lv_sub hl [0, 1, 2, 3, 4, 5] rfl) (by rw [F_R_rotor_j6, if_neg h39, ← hz40, F_R_rotor_k2, if_neg h41, ← hz42, F_R_rotor_k3, if_neg h43, ← hz44, F_R_rotor_k4, if_pos h45])
          · refine lv_iload hx hb d_R_rotor_53 (lv_at hl 5 rfl) ?_
            refine lv_i2l (v := (a5).toInt64) hx hb d_R_rotor_55 rfl ?_
            refine lv_lconst (v := 1) hx hb d_R_rotor_56 (by decide) ?_
            refine lv_ldc2 (v := 1000) hx hb hown (htt _ tw_933) d_R_rotor_57 ?_
            have hPc := hP.sub (ws' := []) [] rfl
            have hDc := hD.sub (ws' := []) [] (by decide) rfl
            refine xk_p (va_runS (As := [.long (a5).toInt64, .long 1, .long 1000]) (rest := []) ⟨hx, hb, hml, hown, hts⟩ (c_R_in l dC dI Z A _ M (a5).toInt64 1 1000) (va_cwS 3 hts (xw_S _ tw_925 tw_926 tw_12 tw_927) rfl rfl rfl (by decide +kernel) ⟨Nat.le_of_ble_eq_true rfl, Nat.le_of_ble_eq_true rfl⟩) ⟨xB_blind, fun U hU hW => ⟨rfl, xB_at hPc hK hDc hq U hU hW⟩⟩ rfl rfl hl.1 rfl (lv_room (Nat.le_of_ble_eq_true rfl)) d_R_rotor_60 ⟨Nat.le_of_ble_eq_true rfl, Nat.le_of_ble_eq_true rfl⟩) ?_
            refine lv_topi (fun z46 hz46 => ?_)
            refine lv_if_ne (tgt := 70) hx hb d_R_rotor_63 rfl (fun h47 => ?_) (fun h47 => ?_)
            · refine lv_iconst (v := 0) hx hb d_R_rotor_70 (by decide) ?_
              exact hJ3 _ 0 (lv_sub hl [0, 1, 2, 3, 4, 5] rfl) (by rw [F_R_rotor_j6, if_neg h39, ← hz40, F_R_rotor_k2, if_neg h41, ← hz42, F_R_rotor_k3, if_neg h43, ← hz44, F_R_rotor_k4, if_neg h45, ← hz46, F_R_rotor_k5, if_neg h47])
            · refine lv_iconst (v := 1) hx hb d_R_rotor_66 (by decide) ?_
              refine lv_goto (tgt := 71) hx hb d_R_rotor_67 rfl ?_
              exact hJ3 _ 1 (lv_sub hl [0, 1, 2, 3, 4, 5] rfl) (by rw [F_R_rotor_j6, if_neg h39, ← hz40, F_R_rotor_k2, if_neg h41, ← hz42, F_R_rotor_k3, if_neg h43, ← hz44, F_R_rotor_k4, if_neg h45, ← hz46, F_R_rotor_k5, if_pos h47])
  · refine lv_istore (lv' := [(6, .int j2), (0, .ref (A 20)), (1, .int a1), (2, .int a2), (3, .int a3), (4, .int a4), (5, .int a5)]) hx hb d_R_rotor_71 hl (by decide) rfl (fun ls hl => ?_)
    refine lv_iconst (v := 0) hx hb d_R_rotor_73 (by decide) ?_
    refine lv_istore (lv' := [(7, .int 0), (6, .int j2), (0, .ref (A 20)), (1, .int a1), (2, .int a2), (3, .int a3), (4, .int a4), (5, .int a5)]) hx hb d_R_rotor_74 hl (by decide) rfl (fun ls hl => ?_)
    refine lv_iload hx hb d_R_rotor_76 (lv_at hl 0 rfl) ?_
    refine lv_iconst (v := 4) hx hb d_R_rotor_78 (by decide) ?_
    refine lv_icmp_ge (tgt := 127) hx hb d_R_rotor_79 rfl (fun h => absurd h (by decide)) (fun _ => ?_)
    refine lv_iload hx hb d_R_rotor_82 (lv_at hl 1 rfl) ?_
    refine xj_p 8 127 (fun q9 : Int32 × Int32 => [(7, .int (q9.1)), (6, .int (q9.2)), (0, .ref (A 20)), (1, .int a1), (2, .int a2), (3, .int a3), (4, .int a4), (5, .int a5)]) (fun q9 : Int32 × Int32 => []) (fun q9 : Int32 × Int32 => q9 = F_R_rotor_j16 M a1 a2 a3 a4 a5 z1 j2) (fun hJ5 => ?_) (fun ls j4 hl hj4 => ?_)
    · refine lv_if_ne (tgt := 127) hx hb d_R_rotor_84 rfl (fun h15 => ?_) (fun h15 => ?_)
      · exact hJ5 _ (0, j2) (lv_sub hl [0, 1, 2, 3, 4, 5, 6, 7] rfl) (by rw [F_R_rotor_j16, if_neg h15])
      · refine lv_iload hx hb d_R_rotor_87 (lv_at hl 0 rfl) ?_
        refine lv_iload_n hx hb d_R_rotor_89 rfl (lv_at hl 3 rfl) ?_
        refine xj_p 8 119 (fun q9 : Int32 => [(7, .int 0), (6, .int j2), (0, .ref (A 20)), (1, .int a1), (2, .int a2), (3, .int a3), (4, .int a4), (5, .int a5)]) (fun q9 : Int32 => [.int q9]) (fun q9 : Int32 => q9 = F_R_rotor_j8 M a1 a2 a3 a4 a5 z1 j2) (fun hJ17 => ?_) (fun ls j16 hl hj16 => ?_)
        · refine lv_icmp_eq (tgt := 118) hx hb d_R_rotor_90 rfl (fun h36 => ?_) (fun h36 => ?_)
          · refine lv_iconst (v := 0) hx hb d_R_rotor_118 (by decide) ?_
            exact hJ17 _ 0 (lv_sub hl [0, 1, 2, 3, 4, 5, 6, 7] rfl) (by rw [F_R_rotor_j8, if_pos h36])
          · refine lv_aload_n hx hb d_R_rotor_93 rfl (lv_at hl 2 rfl) ?_
            refine va_get (D := (dC, dI)) (ci := 10) (v := .ref (A 21)) (C := "CentrifugeUnitModel") (T := xF10) (N := 45) hx hb htt xin10 hown hK hP 0 rfl rfl 1 (by decide) (htt _ tw_780) (fun _ h9 => h9) rfl d_R_rotor_94 ?_
            refine lv_iload hx hb d_R_rotor_97 (lv_at hl 0 rfl) ?_
            refine va_zald (D := (dC, dI)) hx hb hK hP 1 2 rfl rfl (by unfold vp_in; decide) d_R_rotor_99 ?_
            refine W.eq (g2 := F0 m 100 ls [.int ((M.2.2.1 21) 0)]) rfl ?_
            refine lv_if_eq (tgt := 118) hx hb d_R_rotor_100 rfl (fun h37 => ?_) (fun h37 => ?_)
            · refine lv_iconst (v := 0) hx hb d_R_rotor_118 (by decide) ?_
              exact hJ17 _ 0 (lv_sub hl [0, 1, 2, 3, 4, 5, 6, 7] rfl) (by rw [F_R_rotor_j8, if_neg h36, if_pos h37])
            · refine lv_aload_n hx hb d_R_rotor_103 rfl (lv_at hl 2 rfl) ?_
              refine va_get (D := (dC, dI)) (ci := 10) (v := .ref (A 22)) (C := "CentrifugeUnitModel") (T := xF10) (N := 45) hx hb htt xin10 hown hK hP 0 rfl rfl 2 (by decide) (htt _ tw_781) (fun _ h9 => h9) rfl d_R_rotor_104 ?_
              refine lv_iload hx hb d_R_rotor_107 (lv_at hl 0 rfl) ?_
              refine va_iald (D := (dC, dI)) hx hb hK hP 2 0 rfl rfl (by unfold vp_in; decide) d_R_rotor_109 ?_
              refine W.eq (g2 := F0 m 110 ls [.int ((M.2.2.1 22) 0)]) rfl ?_
              refine lv_iload_n hx hb d_R_rotor_110 rfl (lv_at hl 4 rfl) ?_
              refine lv_icmp_ne (tgt := 118) hx hb d_R_rotor_111 rfl (fun h38 => ?_) (fun h38 => ?_)
              · refine lv_iconst (v := 0) hx hb d_R_rotor_118 (by decide) ?_
                exact hJ17 _ 0 (lv_sub hl [0, 1, 2, 3, 4, 5, 6, 7] rfl) (by rw [F_R_rotor_j8, if_neg h36, if_neg h37, if_neg h38])
              · refine lv_iconst (v := 1) hx hb d_R_rotor_114 (by decide) ?_
                refine lv_goto (tgt := 119) hx hb d_R_rotor_115 rfl ?_
                exact hJ17 _ 1 (lv_sub hl [0, 1, 2, 3, 4, 5, 6, 7] rfl) (by rw [F_R_rotor_j8, if_neg h36, if_neg h37, if_pos h38])
        · refine lv_istore (lv' := [(6, .int j16), (7, .int 0), (0, .ref (A 20)), (1, .int a1), (2, .int a2), (3, .int a3), (4, .int a4), (5, .int a5)]) hx hb d_R_rotor_119 hl (by decide) rfl (fun ls hl => ?_)
          refine lv_iinc (k := 1) (v := 1) (lv' := [(7, .int 1), (6, .int j16), (0, .ref (A 20)), (1, .int a1), (2, .int a2), (3, .int a3), (4, .int a4), (5, .int a5)]) hx hb d_R_rotor_121 hl rfl (by decide) (by decide) rfl (fun ls hl => ?_)
          refine lv_goto (tgt := 76) hx hb d_R_rotor_124 rfl ?_
          refine lv_iload hx hb d_R_rotor_76 (lv_at hl 0 rfl) ?_
          refine lv_iconst (v := 4) hx hb d_R_rotor_78 (by decide) ?_
          refine lv_icmp_ge (tgt := 127) hx hb d_R_rotor_79 rfl (fun h => absurd h (by decide)) (fun _ => ?_)
          refine lv_iload hx hb d_R_rotor_82 (lv_at hl 1 rfl) ?_
          refine lv_if_ne (tgt := 127) hx hb d_R_rotor_84 rfl (fun h18 => ?_) (fun h18 => ?_)
          · exact hJ5 _ (1, j16) (lv_sub hl [0, 1, 2, 3, 4, 5, 6, 7] rfl) (by rw [F_R_rotor_j16, if_pos h15, ← hj16, F_R_rotor_k9, if_neg h18])
          · refine lv_iload hx hb d_R_rotor_87 (lv_at hl 0 rfl) ?_
            refine lv_iload_n hx hb d_R_rotor_89 rfl (lv_at hl 3 rfl) ?_
            refine xj_p 8 119 (fun q9 : Int32 => [(7, .int 1), (6, .int j16), (0, .ref (A 20)), (1, .int a1), (2, .int a2), (3, .int a3), (4, .int a4), (5, .int a5)]) (fun q9 : Int32 => [.int q9]) (fun q9 : Int32 => q9 = F_R_rotor_j10 M a1 a2 a3 a4 a5 z1 j2 j16) (fun hJ20 => ?_) (fun ls j19 hl hj19 => ?_)
            · refine lv_icmp_eq (tgt := 118) hx hb d_R_rotor_90 rfl (fun h33 => ?_) (fun h33 => ?_)
              · refine lv_iconst (v := 0) hx hb d_R_rotor_118 (by decide) ?_
                exact hJ20 _ 0 (lv_sub hl [0, 1, 2, 3, 4, 5, 6, 7] rfl) (by rw [F_R_rotor_j10, if_pos h33])
              · refine lv_aload_n hx hb d_R_rotor_93 rfl (lv_at hl 2 rfl) ?_
                refine va_get (D := (dC, dI)) (ci := 10) (v := .ref (A 21)) (C := "CentrifugeUnitModel") (T := xF10) (N := 45) hx hb htt xin10 hown hK hP 0 rfl rfl 1 (by decide) (htt _ tw_780) (fun _ h9 => h9) rfl d_R_rotor_94 ?_
                refine lv_iload hx hb d_R_rotor_97 (lv_at hl 0 rfl) ?_
                refine va_zald (D := (dC, dI)) hx hb hK hP 1 2 rfl rfl (by unfold vp_in; decide) d_R_rotor_99 ?_
                refine W.eq (g2 := F0 m 100 ls [.int ((M.2.2.1 21) 1)]) rfl ?_
                refine lv_if_eq (tgt := 118) hx hb d_R_rotor_100 rfl (fun h34 => ?_) (fun h34 => ?_)
                · refine lv_iconst (v := 0) hx hb d_R_rotor_118 (by decide) ?_
                  exact hJ20 _ 0 (lv_sub hl [0, 1, 2, 3, 4, 5, 6, 7] rfl) (by rw [F_R_rotor_j10, if_neg h33, if_pos h34])
                · refine lv_aload_n hx hb d_R_rotor_103 rfl (lv_at hl 2 rfl) ?_
                  refine va_get (D := (dC, dI)) (ci := 10) (v := .ref (A 22)) (C := "CentrifugeUnitModel") (T := xF10) (N := 45) hx hb htt xin10 hown hK hP 0 rfl rfl 2 (by decide) (htt _ tw_781) (fun _ h9 => h9) rfl d_R_rotor_104 ?_
                  refine lv_iload hx hb d_R_rotor_107 (lv_at hl 0 rfl) ?_
                  refine va_iald (D := (dC, dI)) hx hb hK hP 2 0 rfl rfl (by unfold vp_in; decide) d_R_rotor_109 ?_
                  refine W.eq (g2 := F0 m 110 ls [.int ((M.2.2.1 22) 1)]) rfl ?_
                  refine lv_iload_n hx hb d_R_rotor_110 rfl (lv_at hl 4 rfl) ?_
                  refine lv_icmp_ne (tgt := 118) hx hb d_R_rotor_111 rfl (fun h35 => ?_) (fun h35 => ?_)
                  · refine lv_iconst (v := 0) hx hb d_R_rotor_118 (by decide) ?_
                    exact hJ20 _ 0 (lv_sub hl [0, 1, 2, 3, 4, 5, 6, 7] rfl) (by rw [F_R_rotor_j10, if_neg h33, if_neg h34, if_neg h35])
                  · refine lv_iconst (v := 1) hx hb d_R_rotor_114 (by decide) ?_
                    refine lv_goto (tgt := 119) hx hb d_R_rotor_115 rfl ?_
                    exact hJ20 _ 1 (lv_sub hl [0, 1, 2, 3, 4, 5, 6, 7] rfl) (by rw [F_R_rotor_j10, if_neg h33, if_neg h34, if_pos h35])
            · refine lv_istore (lv' := [(6, .int j19), (7, .int 1), (0, .ref (A 20)), (1, .int a1), (2, .int a2), (3, .int a3), (4, .int a4), (5, .int a5)]) hx hb d_R_rotor_119 hl (by decide) rfl (fun ls hl => ?_)
              refine lv_iinc (k := 1) (v := 2) (lv' := [(7, .int 2), (6, .int j19), (0, .ref (A 20)), (1, .int a1), (2, .int a2), (3, .int a3), (4, .int a4), (5, .int a5)]) hx hb d_R_rotor_121 hl rfl (by decide) (by decide) rfl (fun ls hl => ?_)
              refine lv_goto (tgt := 76) hx hb d_R_rotor_124 rfl ?_
              refine lv_iload hx hb d_R_rotor_76 (lv_at hl 0 rfl) ?_
              refine lv_iconst (v := 4) hx hb d_R_rotor_78 (by decide) ?_
              refine lv_icmp_ge (tgt := 127) hx hb d_R_rotor_79 rfl (fun h => absurd h (by decide)) (fun _ => ?_)
              refine lv_iload hx hb d_R_rotor_82 (lv_at hl 1 rfl) ?_
              refine lv_if_ne (tgt := 127) hx hb d_R_rotor_84 rfl (fun h21 => ?_) (fun h21 => ?_)
              · exact hJ5 _ (2, j19) (lv_sub hl [0, 1, 2, 3, 4, 5, 6, 7] rfl) (by rw [F_R_rotor_j16, if_pos h15, ← hj16, F_R_rotor_k9, if_pos h18, ← hj19, F_R_rotor_k11, if_neg h21])
              · refine lv_iload hx hb d_R_rotor_87 (lv_at hl 0 rfl) ?_
                refine lv_iload_n hx hb d_R_rotor_89 rfl (lv_at hl 3 rfl) ?_
                refine xj_p 8 119 (fun q9 : Int32 => [(7, .int 2), (6, .int j19), (0, .ref (A 20)), (1, .int a1), (2, .int a2), (3, .int a3), (4, .int a4), (5, .int a5)]) (fun q9 : Int32 => [.int q9]) (fun q9 : Int32 => q9 = F_R_rotor_j12 M a1 a2 a3 a4 a5 z1 j2 j16 j19) (fun hJ23 => ?_) (fun ls j22 hl hj22 => ?_)
                · refine lv_icmp_eq (tgt := 118) hx hb d_R_rotor_90 rfl (fun h30 => ?_) (fun h30 => ?_)
                  · refine lv_iconst (v := 0) hx hb d_R_rotor_118 (by decide) ?_
                    exact hJ23 _ 0 (lv_sub hl [0, 1, 2, 3, 4, 5, 6, 7] rfl) (by rw [F_R_rotor_j12, if_pos h30])
                  · refine lv_aload_n hx hb d_R_rotor_93 rfl (lv_at hl 2 rfl) ?_
                    refine va_get (D := (dC, dI)) (ci := 10) (v := .ref (A 21)) (C := "CentrifugeUnitModel") (T := xF10) (N := 45) hx hb htt xin10 hown hK hP 0 rfl rfl 1 (by decide) (htt _ tw_780) (fun _ h9 => h9) rfl d_R_rotor_94 ?_
                    refine lv_iload hx hb d_R_rotor_97 (lv_at hl 0 rfl) ?_
                    refine va_zald (D := (dC, dI)) hx hb hK hP 1 2 rfl rfl (by unfold vp_in; decide) d_R_rotor_99 ?_
                    refine W.eq (g2 := F0 m 100 ls [.int ((M.2.2.1 21) 2)]) rfl ?_
                    refine lv_if_eq (tgt := 118) hx hb d_R_rotor_100 rfl (fun h31 => ?_) (fun h31 => ?_)
                    · refine lv_iconst (v := 0) hx hb d_R_rotor_118 (by decide) ?_
                      exact hJ23 _ 0 (lv_sub hl [0, 1, 2, 3, 4, 5, 6, 7] rfl) (by rw [F_R_rotor_j12, if_neg h30, if_pos h31])
                    · refine lv_aload_n hx hb d_R_rotor_103 rfl (lv_at hl 2 rfl) ?_
                      refine va_get (D := (dC, dI)) (ci := 10) (v := .ref (A 22)) (C := "CentrifugeUnitModel") (T := xF10) (N := 45) hx hb htt xin10 hown hK hP 0 rfl rfl 2 (by decide) (htt _ tw_781) (fun _ h9 => h9) rfl d_R_rotor_104 ?_
                      refine lv_iload hx hb d_R_rotor_107 (lv_at hl 0 rfl) ?_
                      refine va_iald (D := (dC, dI)) hx hb hK hP 2 0 rfl rfl (by unfold vp_in; decide) d_R_rotor_109 ?_
                      refine W.eq (g2 := F0 m 110 ls [.int ((M.2.2.1 22) 2)]) rfl ?_
                      refine lv_iload_n hx hb d_R_rotor_110 rfl (lv_at hl 4 rfl) ?_
                      refine lv_icmp_ne (tgt := 118) hx hb d_R_rotor_111 rfl (fun h32 => ?_) (fun h32 => ?_)
                      · refine lv_iconst (v := 0) hx hb d_R_rotor_118 (by decide) ?_
                        exact hJ23 _ 0 (lv_sub hl [0, 1, 2, 3, 4, 5, 6, 7] rfl) (by rw [F_R_rotor_j12, if_neg h30, if_neg h31, if_neg h32])
                      · refine lv_iconst (v := 1) hx hb d_R_rotor_114 (by decide) ?_
                        refine lv_goto (tgt := 119) hx hb d_R_rotor_115 rfl ?_
                        exact hJ23 _ 1 (lv_sub hl [0, 1, 2, 3, 4, 5, 6, 7] rfl) (by rw [F_R_rotor_j12, if_neg h30, if_neg h31, if_pos h32])
                · refine lv_istore (lv' := [(6, .int j22), (7, .int 2), (0, .ref (A 20)), (1, .int a1), (2, .int a2), (3, .int a3), (4, .int a4), (5, .int a5)]) hx hb d_R_rotor_119 hl (by decide) rfl (fun ls hl => ?_)
                  refine lv_iinc (k := 1) (v := 3) (lv' := [(7, .int 3), (6, .int j22), (0, .ref (A 20)), (1, .int a1), (2, .int a2), (3, .int a3), (4, .int a4), (5, .int a5)]) hx hb d_R_rotor_121 hl rfl (by decide) (by decide) rfl (fun ls hl => ?_)
                  refine lv_goto (tgt := 76) hx hb d_R_rotor_124 rfl ?_
                  refine lv_iload hx hb d_R_rotor_76 (lv_at hl 0 rfl) ?_
                  refine lv_iconst (v := 4) hx hb d_R_rotor_78 (by decide) ?_
                  refine lv_icmp_ge (tgt := 127) hx hb d_R_rotor_79 rfl (fun h => absurd h (by decide)) (fun _ => ?_)
                  refine lv_iload hx hb d_R_rotor_82 (lv_at hl 1 rfl) ?_
                  refine lv_if_ne (tgt := 127) hx hb d_R_rotor_84 rfl (fun h24 => ?_) (fun h24 => ?_)
                  · exact hJ5 _ (3, j22) (lv_sub hl [0, 1, 2, 3, 4, 5, 6, 7] rfl) (by rw [F_R_rotor_j16, if_pos h15, ← hj16, F_R_rotor_k9, if_pos h18, ← hj19, F_R_rotor_k11, if_pos h21, ← hj22, F_R_rotor_k13, if_neg h24])
                  · refine lv_iload hx hb d_R_rotor_87 (lv_at hl 0 rfl) ?_
                    refine lv_iload_n hx hb d_R_rotor_89 rfl (lv_at hl 3 rfl) ?_
                    refine xj_p 8 119 (fun q9 : Int32 => [(7, .int 3), (6, .int j22), (0, .ref (A 20)), (1, .int a1), (2, .int a2), (3, .int a3), (4, .int a4), (5, .int a5)]) (fun q9 : Int32 => [.int q9]) (fun q9 : Int32 => q9 = F_R_rotor_j14 M a1 a2 a3 a4 a5 z1 j2 j16 j19 j22) (fun hJ26 => ?_) (fun ls j25 hl hj25 => ?_)
                    · refine lv_icmp_eq (tgt := 118) hx hb d_R_rotor_90 rfl (fun h27 => ?_) (fun h27 => ?_)
                      · refine lv_iconst (v := 0) hx hb d_R_rotor_118 (by decide) ?_
                        exact hJ26 _ 0 (lv_sub hl [0, 1, 2, 3, 4, 5, 6, 7] rfl) (by rw [F_R_rotor_j14, if_pos h27])
                      · refine lv_aload_n hx hb d_R_rotor_93 rfl (lv_at hl 2 rfl) ?_
                        refine va_get (D := (dC, dI)) (ci := 10) (v := .ref (A 21)) (C := "CentrifugeUnitModel") (T := xF10) (N := 45) hx hb htt xin10 hown hK hP 0 rfl rfl 1 (by decide) (htt _ tw_780) (fun _ h9 => h9) rfl d_R_rotor_94 ?_
                        refine lv_iload hx hb d_R_rotor_97 (lv_at hl 0 rfl) ?_
                        refine va_zald (D := (dC, dI)) hx hb hK hP 1 2 rfl rfl (by unfold vp_in; decide) d_R_rotor_99 ?_
                        refine W.eq (g2 := F0 m 100 ls [.int ((M.2.2.1 21) 3)]) rfl ?_
                        refine lv_if_eq (tgt := 118) hx hb d_R_rotor_100 rfl (fun h28 => ?_) (fun h28 => ?_)
                        · refine lv_iconst (v := 0) hx hb d_R_rotor_118 (by decide) ?_
                          exact hJ26 _ 0 (lv_sub hl [0, 1, 2, 3, 4, 5, 6, 7] rfl) (by rw [F_R_rotor_j14, if_neg h27, if_pos h28])
                        · refine lv_aload_n hx hb d_R_rotor_103 rfl (lv_at hl 2 rfl) ?_
                          refine va_get (D := (dC, dI)) (ci := 10) (v := .ref (A 22)) (C := "CentrifugeUnitModel") (T := xF10) (N := 45) hx hb htt xin10 hown hK hP 0 rfl rfl 2 (by decide) (htt _ tw_781) (fun _ h9 => h9) rfl d_R_rotor_104 ?_
                          refine lv_iload hx hb d_R_rotor_107 (lv_at hl 0 rfl) ?_
                          refine va_iald (D := (dC, dI)) hx hb hK hP 2 0 rfl rfl (by unfold vp_in; decide) d_R_rotor_109 ?_
                          refine W.eq (g2 := F0 m 110 ls [.int ((M.2.2.1 22) 3)]) rfl ?_
                          refine lv_iload_n hx hb d_R_rotor_110 rfl (lv_at hl 4 rfl) ?_
                          refine lv_icmp_ne (tgt := 118) hx hb d_R_rotor_111 rfl (fun h29 => ?_) (fun h29 => ?_)
                          · refine lv_iconst (v := 0) hx hb d_R_rotor_118 (by decide) ?_
                            exact hJ26 _ 0 (lv_sub hl [0, 1, 2, 3, 4, 5, 6, 7] rfl) (by rw [F_R_rotor_j14, if_neg h27, if_neg h28, if_neg h29])
                          · refine lv_iconst (v := 1) hx hb d_R_rotor_114 (by decide) ?_
                            refine lv_goto (tgt := 119) hx hb d_R_rotor_115 rfl ?_
                            exact hJ26 _ 1 (lv_sub hl [0, 1, 2, 3, 4, 5, 6, 7] rfl) (by rw [F_R_rotor_j14, if_neg h27, if_neg h28, if_pos h29])
                    · refine lv_istore (lv' := [(6, .int j25), (7, .int 3), (0, .ref (A 20)), (1, .int a1), (2, .int a2), (3, .int a3), (4, .int a4), (5, .int a5)]) hx hb d_R_rotor_119 hl (by decide) rfl (fun ls hl => ?_)
                      refine lv_iinc (k := 1) (v := 4) (lv' := [(7, .int 4), (6, .int j25), (0, .ref (A 20)), (1, .int a1), (2, .int a2), (3, .int a3), (4, .int a4), (5, .int a5)]) hx hb d_R_rotor_121 hl rfl (by decide) (by decide) rfl (fun ls hl => ?_)
                      refine lv_goto (tgt := 76) hx hb d_R_rotor_124 rfl ?_
                      refine lv_iload hx hb d_R_rotor_76 (lv_at hl 0 rfl) ?_
                      refine lv_iconst (v := 4) hx hb d_R_rotor_78 (by decide) ?_
                      refine lv_icmp_ge (tgt := 127) hx hb d_R_rotor_79 rfl (fun _ => ?_) (fun h => absurd h (by decide))
                      exact hJ5 _ (4, j25) (lv_sub hl [0, 1, 2, 3, 4, 5, 6, 7] rfl) (by rw [F_R_rotor_j16, if_pos h15, ← hj16, F_R_rotor_k9, if_pos h18, ← hj19, F_R_rotor_k11, if_pos h21, ← hj22, F_R_rotor_k13, if_pos h24, ← hj25, F_R_rotor_k15])
    · refine lv_aload_n hx hb d_R_rotor_127 rfl (lv_at hl 2 rfl) ?_
      refine lv_iload hx hb d_R_rotor_128 (lv_at hl 1 rfl) ?_
      refine lv_iload hx hb d_R_rotor_130 (lv_at hl 1 rfl) ?_
      refine xj_p 8 154 (fun q9 : Int32 => [(7, .int (j4.1)), (6, .int (j4.2)), (0, .ref (A 20)), (1, .int a1), (2, .int a2), (3, .int a3), (4, .int a4), (5, .int a5)]) (fun q9 : Int32 => [.int q9, .int (j4.2), .ref (A 20)]) (fun q9 : Int32 => q9 = F_R_rotor_j18 M a1 a2 a3 a4 a5 z1 j2 j4) (fun hJ7 => ?_) (fun ls j6 hl hj6 => ?_)
      · refine lv_if_ne (tgt := 153) hx hb d_R_rotor_132 rfl (fun h12 => ?_) (fun h12 => ?_)
        · refine lv_iconst (v := 0) hx hb d_R_rotor_153 (by decide) ?_
          exact hJ7 _ 0 (lv_sub hl [0, 1, 2, 3, 4, 5, 6, 7] rfl) (by rw [F_R_rotor_j18, if_neg h12])
        · refine lv_aload_n hx hb d_R_rotor_135 rfl (lv_at hl 2 rfl) ?_
          refine va_get (D := (dC, dI)) (ci := 10) (v := .int (M.1 110)) (C := "CentrifugeUnitModel") (T := xF10) (N := 45) hx hb htt xin10 hown hK hP 0 rfl rfl 22 (by decide) (htt _ tw_801) (fun _ h9 => h9) rfl d_R_rotor_136 ?_
          refine lv_if_ne (tgt := 149) hx hb d_R_rotor_139 rfl (fun h13 => ?_) (fun h13 => ?_)
          · refine lv_iconst (v := 1) hx hb d_R_rotor_149 (by decide) ?_
            refine lv_goto (tgt := 154) hx hb d_R_rotor_150 rfl ?_
            exact hJ7 _ 1 (lv_sub hl [0, 1, 2, 3, 4, 5, 6, 7] rfl) (by rw [F_R_rotor_j18, if_pos h12, if_neg h13])
          · refine lv_aload_n hx hb d_R_rotor_142 rfl (lv_at hl 2 rfl) ?_
            refine va_get (D := (dC, dI)) (ci := 10) (v := .int (M.1 109)) (C := "CentrifugeUnitModel") (T := xF10) (N := 45) hx hb htt xin10 hown hK hP 0 rfl rfl 21 (by decide) (htt _ tw_800) (fun _ h9 => h9) rfl d_R_rotor_143 ?_
            refine lv_if_ne (tgt := 153) hx hb d_R_rotor_146 rfl (fun h14 => ?_) (fun h14 => ?_)
            · refine lv_iconst (v := 0) hx hb d_R_rotor_153 (by decide) ?_
              exact hJ7 _ 0 (lv_sub hl [0, 1, 2, 3, 4, 5, 6, 7] rfl) (by rw [F_R_rotor_j18, if_pos h12, if_pos h13, if_neg h14])
            · refine lv_iconst (v := 1) hx hb d_R_rotor_149 (by decide) ?_
              refine lv_goto (tgt := 154) hx hb d_R_rotor_150 rfl ?_
              exact hJ7 _ 1 (lv_sub hl [0, 1, 2, 3, 4, 5, 6, 7] rfl) (by rw [F_R_rotor_j18, if_pos h12, if_pos h13, if_pos h14])
      · have hPc := hP.sub (ws' := [(A 20, xc20 Z A M)]) [0] rfl
        have hDc := hD.sub (ws' := [(A 20, xc20 Z A M)]) [0] (by decide) rfl
        refine xk_i (wc := [(A 20, xc20 Z A M)]) (wr := [(A 21, .inl (Z 2, 4, .inl (M.2.2.1 21))), (A 22, .inl (Z 0, 4, .inl (M.2.2.1 22))), (A 23, .inl (Z 0, 4, .inl (M.2.2.1 23))), (A 24, .inl (Z 0, 4, .inl (M.2.2.1 24))), (A 25, .inl (Z 0, 4, .inl (M.2.2.1 25)))]) (va_runV (As := [.int (j4.2), .int j6]) (rest := []) ⟨hx, hb, hml, hown, hts⟩ (c_R_throwing l dC dI Z A _ M (j4.2) j6) (cwV 2 hts (xw_V _ tw_934 tw_936 tp_12 tw_12 tw_937) rfl rfl rfl (by decide +kernel) ⟨Nat.le_of_ble_eq_true rfl, Nat.le_of_ble_eq_true rfl⟩) ⟨xB_blind, va_recv (q0 := 0) (ci := 10) hK hP rfl rfl, fun U hU hW => ⟨rfl, xB_at hPc hK hDc hq U hU hW⟩⟩ rfl rfl hl.1 rfl (lv_room (Nat.le_of_ble_eq_true rfl)) d_R_rotor_154 ⟨Nat.le_of_ble_eq_true rfl, Nat.le_of_ble_eq_true rfl⟩) hP hD hS hA [0] [1, 2, 3, 4, 5] rfl rfl (by decide) (by decide) (fun r9 u8 H locs hu8 hP hD hS => ?_)
        obtain ⟨p10, rfl, rfl⟩ : ∃ z : Int32 × Int32, r9 = z.1 ∧ u8 = z.2 := ⟨(r9, u8), rfl, rfl⟩
        replace hu8 : p10 = (F_R_throwing M (j4.2) j6) := hu8
        have hP : va_P (dC, dI) xcl [(A 21, .inl (Z 2, 4, .inl (M.2.2.1 21))), (A 22, .inl (Z 0, 4, .inl (M.2.2.1 22))), (A 23, .inl (Z 0, 4, .inl (M.2.2.1 23))), (A 24, .inl (Z 0, 4, .inl (M.2.2.1 24))), (A 25, .inl (Z 0, 4, .inl (M.2.2.1 25))), (A 20, .inr (10, [.int (p10.2), .ref (A 21), .ref (A 22), .ref (A 23), .ref (A 24), .ref (A 25), .int (M.1 101), .ref (A 26), .ref (A 27), .ref (A 28), .int (M.1 102), .long (M.2.1 100), .int (M.1 103), .int (M.1 104), .int (M.1 105), .int (M.1 106), .int (M.1 107), .int (M.1 108), .long (M.2.1 101), .long (M.2.1 102), .long (M.2.1 103), .int (M.1 109), .int (M.1 110), .int (M.1 111), .int (M.1 112), .int (M.1 113), .long (M.2.1 104), .long (M.2.1 105), .long (M.2.1 106), .int (M.1 114), .int (M.1 115), .int (M.1 116), .int (M.1 117), .int (M.1 118), .int (M.1 119), .int (M.1 120), .int (M.1 121), .int (M.1 122), .int (M.1 123), .int (M.1 124), .long (M.2.1 107), .int (M.1 125), .ref (A 29), .ref (A 30), .ref (A 31)]))] H := hP
        have hD : va_D AA [(A 21, .inl (Z 2, 4, .inl (M.2.2.1 21))), (A 22, .inl (Z 0, 4, .inl (M.2.2.1 22))), (A 23, .inl (Z 0, 4, .inl (M.2.2.1 23))), (A 24, .inl (Z 0, 4, .inl (M.2.2.1 24))), (A 25, .inl (Z 0, 4, .inl (M.2.2.1 25))), (A 20, .inr (10, [.int (p10.2), .ref (A 21), .ref (A 22), .ref (A 23), .ref (A 24), .ref (A 25), .int (M.1 101), .ref (A 26), .ref (A 27), .ref (A 28), .int (M.1 102), .long (M.2.1 100), .int (M.1 103), .int (M.1 104), .int (M.1 105), .int (M.1 106), .int (M.1 107), .int (M.1 108), .long (M.2.1 101), .long (M.2.1 102), .long (M.2.1 103), .int (M.1 109), .int (M.1 110), .int (M.1 111), .int (M.1 112), .int (M.1 113), .long (M.2.1 104), .long (M.2.1 105), .long (M.2.1 106), .int (M.1 114), .int (M.1 115), .int (M.1 116), .int (M.1 117), .int (M.1 118), .int (M.1 119), .int (M.1 120), .int (M.1 121), .int (M.1 122), .int (M.1 123), .int (M.1 124), .long (M.2.1 107), .int (M.1 125), .ref (A 29), .ref (A 30), .ref (A 31)]))] := hD
        refine lv_if_eq (tgt := 161) hx hb d_R_rotor_157 rfl (fun h11 => ?_) (fun h11 => ?_)
        · refine lv_aload_n hx hb d_R_rotor_161 rfl (lv_at hl 2 rfl) ?_
          refine va_get (D := (dC, dI)) (ci := 10) (v := .ref (A 21)) (C := "CentrifugeUnitModel") (T := xF10) (N := 45) hx hb htt xin10 hown hK hP 5 rfl rfl 1 (by decide) (htt _ tw_780) (fun _ h9 => h9) rfl d_R_rotor_162 ?_
          refine lv_iload_n hx hb d_R_rotor_165 rfl (lv_at hl 3 rfl) ?_
          refine lv_iconst (v := 1) hx hb d_R_rotor_166 (by decide) ?_
          refine va_zast (D := (dC, dI)) hx hb hK hP hD hS 0 2 rfl rfl (xrin (M := M) (z := z1) (by
          obtain ⟨q1, -⟩ := xth0 (M := M) (a := j4.2) (b := j6) (by rw [← hu8]; exact h11)
          have q2 : j2 = 0 := by
            by_cases e : j2 = 0
            · exact e
            · rw [hj4, F_R_rotor_j16, if_neg e] at q1; exact q1
          intro e
          rw [hj2, F_R_rotor_j6, if_pos e] at q2
          exact absurd q2 (by decide)) hz1) d_R_rotor_167 (fun H locs hP hD hS => ?_)
          have hP : va_P (dC, dI) xcl [(A 21, .inl (Z 2, 4, .inl (upd (M.2.2.1 21) (a1).toNatClampNeg 1))), (A 22, .inl (Z 0, 4, .inl (M.2.2.1 22))), (A 23, .inl (Z 0, 4, .inl (M.2.2.1 23))), (A 24, .inl (Z 0, 4, .inl (M.2.2.1 24))), (A 25, .inl (Z 0, 4, .inl (M.2.2.1 25))), (A 20, .inr (10, [.int (p10.2), .ref (A 21), .ref (A 22), .ref (A 23), .ref (A 24), .ref (A 25), .int (M.1 101), .ref (A 26), .ref (A 27), .ref (A 28), .int (M.1 102), .long (M.2.1 100), .int (M.1 103), .int (M.1 104), .int (M.1 105), .int (M.1 106), .int (M.1 107), .int (M.1 108), .long (M.2.1 101), .long (M.2.1 102), .long (M.2.1 103), .int (M.1 109), .int (M.1 110), .int (M.1 111), .int (M.1 112), .int (M.1 113), .long (M.2.1 104), .long (M.2.1 105), .long (M.2.1 106), .int (M.1 114), .int (M.1 115), .int (M.1 116), .int (M.1 117), .int (M.1 118), .int (M.1 119), .int (M.1 120), .int (M.1 121), .int (M.1 122), .int (M.1 123), .int (M.1 124), .long (M.2.1 107), .int (M.1 125), .ref (A 29), .ref (A 30), .ref (A 31)]))] H := hP
          have hD : va_D AA [(A 21, .inl (Z 2, 4, .inl (upd (M.2.2.1 21) (a1).toNatClampNeg 1))), (A 22, .inl (Z 0, 4, .inl (M.2.2.1 22))), (A 23, .inl (Z 0, 4, .inl (M.2.2.1 23))), (A 24, .inl (Z 0, 4, .inl (M.2.2.1 24))), (A 25, .inl (Z 0, 4, .inl (M.2.2.1 25))), (A 20, .inr (10, [.int (p10.2), .ref (A 21), .ref (A 22), .ref (A 23), .ref (A 24), .ref (A 25), .int (M.1 101), .ref (A 26), .ref (A 27), .ref (A 28), .int (M.1 102), .long (M.2.1 100), .int (M.1 103), .int (M.1 104), .int (M.1 105), .int (M.1 106), .int (M.1 107), .int (M.1 108), .long (M.2.1 101), .long (M.2.1 102), .long (M.2.1 103), .int (M.1 109), .int (M.1 110), .int (M.1 111), .int (M.1 112), .int (M.1 113), .long (M.2.1 104), .long (M.2.1 105), .long (M.2.1 106), .int (M.1 114), .int (M.1 115), .int (M.1 116), .int (M.1 117), .int (M.1 118), .int (M.1 119), .int (M.1 120), .int (M.1 121), .int (M.1 122), .int (M.1 123), .int (M.1 124), .long (M.2.1 107), .int (M.1 125), .ref (A 29), .ref (A 30), .ref (A 31)]))] := hD
          refine lv_aload_n hx hb d_R_rotor_168 rfl (lv_at hl 2 rfl) ?_
          refine va_get (D := (dC, dI)) (ci := 10) (v := .ref (A 22)) (C := "CentrifugeUnitModel") (T := xF10) (N := 45) hx hb htt xin10 hown hK hP 5 rfl rfl 2 (by decide) (htt _ tw_781) (fun _ h9 => h9) rfl d_R_rotor_169 ?_
          refine lv_iload_n hx hb d_R_rotor_172 rfl (lv_at hl 3 rfl) ?_
          refine lv_iload_n hx hb d_R_rotor_173 rfl (lv_at hl 4 rfl) ?_
          refine va_iast (D := (dC, dI)) hx hb hK hP hD hS 1 0 rfl rfl (xrin (M := M) (z := z1) (by
          obtain ⟨q1, -⟩ := xth0 (M := M) (a := j4.2) (b := j6) (by rw [← hu8]; exact h11)
          have q2 : j2 = 0 := by
            by_cases e : j2 = 0
            · exact e
            · rw [hj4, F_R_rotor_j16, if_neg e] at q1; exact q1
          intro e
          rw [hj2, F_R_rotor_j6, if_pos e] at q2
          exact absurd q2 (by decide)) hz1) d_R_rotor_174 (fun H locs hP hD hS => ?_)
          have hP : va_P (dC, dI) xcl [(A 21, .inl (Z 2, 4, .inl (upd (M.2.2.1 21) (a1).toNatClampNeg 1))), (A 22, .inl (Z 0, 4, .inl (upd (M.2.2.1 22) (a1).toNatClampNeg a2))), (A 23, .inl (Z 0, 4, .inl (M.2.2.1 23))), (A 24, .inl (Z 0, 4, .inl (M.2.2.1 24))), (A 25, .inl (Z 0, 4, .inl (M.2.2.1 25))), (A 20, .inr (10, [.int (p10.2), .ref (A 21), .ref (A 22), .ref (A 23), .ref (A 24), .ref (A 25), .int (M.1 101), .ref (A 26), .ref (A 27), .ref (A 28), .int (M.1 102), .long (M.2.1 100), .int (M.1 103), .int (M.1 104), .int (M.1 105), .int (M.1 106), .int (M.1 107), .int (M.1 108), .long (M.2.1 101), .long (M.2.1 102), .long (M.2.1 103), .int (M.1 109), .int (M.1 110), .int (M.1 111), .int (M.1 112), .int (M.1 113), .long (M.2.1 104), .long (M.2.1 105), .long (M.2.1 106), .int (M.1 114), .int (M.1 115), .int (M.1 116), .int (M.1 117), .int (M.1 118), .int (M.1 119), .int (M.1 120), .int (M.1 121), .int (M.1 122), .int (M.1 123), .int (M.1 124), .long (M.2.1 107), .int (M.1 125), .ref (A 29), .ref (A 30), .ref (A 31)]))] H := hP
          have hD : va_D AA [(A 21, .inl (Z 2, 4, .inl (upd (M.2.2.1 21) (a1).toNatClampNeg 1))), (A 22, .inl (Z 0, 4, .inl (upd (M.2.2.1 22) (a1).toNatClampNeg a2))), (A 23, .inl (Z 0, 4, .inl (M.2.2.1 23))), (A 24, .inl (Z 0, 4, .inl (M.2.2.1 24))), (A 25, .inl (Z 0, 4, .inl (M.2.2.1 25))), (A 20, .inr (10, [.int (p10.2), .ref (A 21), .ref (A 22), .ref (A 23), .ref (A 24), .ref (A 25), .int (M.1 101), .ref (A 26), .ref (A 27), .ref (A 28), .int (M.1 102), .long (M.2.1 100), .int (M.1 103), .int (M.1 104), .int (M.1 105), .int (M.1 106), .int (M.1 107), .int (M.1 108), .long (M.2.1 101), .long (M.2.1 102), .long (M.2.1 103), .int (M.1 109), .int (M.1 110), .int (M.1 111), .int (M.1 112), .int (M.1 113), .long (M.2.1 104), .long (M.2.1 105), .long (M.2.1 106), .int (M.1 114), .int (M.1 115), .int (M.1 116), .int (M.1 117), .int (M.1 118), .int (M.1 119), .int (M.1 120), .int (M.1 121), .int (M.1 122), .int (M.1 123), .int (M.1 124), .long (M.2.1 107), .int (M.1 125), .ref (A 29), .ref (A 30), .ref (A 31)]))] := hD
          refine lv_aload_n hx hb d_R_rotor_175 rfl (lv_at hl 2 rfl) ?_
          refine va_get (D := (dC, dI)) (ci := 10) (v := .ref (A 23)) (C := "CentrifugeUnitModel") (T := xF10) (N := 45) hx hb htt xin10 hown hK hP 5 rfl rfl 3 (by decide) (htt _ tw_782) (fun _ h9 => h9) rfl d_R_rotor_176 ?_
          refine lv_iload_n hx hb d_R_rotor_179 rfl (lv_at hl 3 rfl) ?_
          refine lv_iload_n hx hb d_R_rotor_180 rfl (lv_at hl 5 rfl) ?_
          refine va_iast (D := (dC, dI)) hx hb hK hP hD hS 2 0 rfl rfl (xrin (M := M) (z := z1) (by
          obtain ⟨q1, -⟩ := xth0 (M := M) (a := j4.2) (b := j6) (by rw [← hu8]; exact h11)
          have q2 : j2 = 0 := by
            by_cases e : j2 = 0
            · exact e
            · rw [hj4, F_R_rotor_j16, if_neg e] at q1; exact q1
          intro e
          rw [hj2, F_R_rotor_j6, if_pos e] at q2
          exact absurd q2 (by decide)) hz1) d_R_rotor_181 (fun H locs hP hD hS => ?_)
          have hP : va_P (dC, dI) xcl [(A 21, .inl (Z 2, 4, .inl (upd (M.2.2.1 21) (a1).toNatClampNeg 1))), (A 22, .inl (Z 0, 4, .inl (upd (M.2.2.1 22) (a1).toNatClampNeg a2))), (A 23, .inl (Z 0, 4, .inl (upd (M.2.2.1 23) (a1).toNatClampNeg a3))), (A 24, .inl (Z 0, 4, .inl (M.2.2.1 24))), (A 25, .inl (Z 0, 4, .inl (M.2.2.1 25))), (A 20, .inr (10, [.int (p10.2), .ref (A 21), .ref (A 22), .ref (A 23), .ref (A 24), .ref (A 25), .int (M.1 101), .ref (A 26), .ref (A 27), .ref (A 28), .int (M.1 102), .long (M.2.1 100), .int (M.1 103), .int (M.1 104), .int (M.1 105), .int (M.1 106), .int (M.1 107), .int (M.1 108), .long (M.2.1 101), .long (M.2.1 102), .long (M.2.1 103), .int (M.1 109), .int (M.1 110), .int (M.1 111), .int (M.1 112), .int (M.1 113), .long (M.2.1 104), .long (M.2.1 105), .long (M.2.1 106), .int (M.1 114), .int (M.1 115), .int (M.1 116), .int (M.1 117), .int (M.1 118), .int (M.1 119), .int (M.1 120), .int (M.1 121), .int (M.1 122), .int (M.1 123), .int (M.1 124), .long (M.2.1 107), .int (M.1 125), .ref (A 29), .ref (A 30), .ref (A 31)]))] H := hP
          have hD : va_D AA [(A 21, .inl (Z 2, 4, .inl (upd (M.2.2.1 21) (a1).toNatClampNeg 1))), (A 22, .inl (Z 0, 4, .inl (upd (M.2.2.1 22) (a1).toNatClampNeg a2))), (A 23, .inl (Z 0, 4, .inl (upd (M.2.2.1 23) (a1).toNatClampNeg a3))), (A 24, .inl (Z 0, 4, .inl (M.2.2.1 24))), (A 25, .inl (Z 0, 4, .inl (M.2.2.1 25))), (A 20, .inr (10, [.int (p10.2), .ref (A 21), .ref (A 22), .ref (A 23), .ref (A 24), .ref (A 25), .int (M.1 101), .ref (A 26), .ref (A 27), .ref (A 28), .int (M.1 102), .long (M.2.1 100), .int (M.1 103), .int (M.1 104), .int (M.1 105), .int (M.1 106), .int (M.1 107), .int (M.1 108), .long (M.2.1 101), .long (M.2.1 102), .long (M.2.1 103), .int (M.1 109), .int (M.1 110), .int (M.1 111), .int (M.1 112), .int (M.1 113), .long (M.2.1 104), .long (M.2.1 105), .long (M.2.1 106), .int (M.1 114), .int (M.1 115), .int (M.1 116), .int (M.1 117), .int (M.1 118), .int (M.1 119), .int (M.1 120), .int (M.1 121), .int (M.1 122), .int (M.1 123), .int (M.1 124), .long (M.2.1 107), .int (M.1 125), .ref (A 29), .ref (A 30), .ref (A 31)]))] := hD
          refine lv_aload_n hx hb d_R_rotor_182 rfl (lv_at hl 2 rfl) ?_
          refine va_get (D := (dC, dI)) (ci := 10) (v := .ref (A 24)) (C := "CentrifugeUnitModel") (T := xF10) (N := 45) hx hb htt xin10 hown hK hP 5 rfl rfl 4 (by decide) (htt _ tw_783) (fun _ h9 => h9) rfl d_R_rotor_183 ?_
          refine lv_iload_n hx hb d_R_rotor_186 rfl (lv_at hl 3 rfl) ?_
          refine lv_iload hx hb d_R_rotor_187 (lv_at hl 6 rfl) ?_
          refine va_iast (D := (dC, dI)) hx hb hK hP hD hS 3 0 rfl rfl (xrin (M := M) (z := z1) (by
          obtain ⟨q1, -⟩ := xth0 (M := M) (a := j4.2) (b := j6) (by rw [← hu8]; exact h11)
          have q2 : j2 = 0 := by
            by_cases e : j2 = 0
            · exact e
            · rw [hj4, F_R_rotor_j16, if_neg e] at q1; exact q1
          intro e
          rw [hj2, F_R_rotor_j6, if_pos e] at q2
          exact absurd q2 (by decide)) hz1) d_R_rotor_189 (fun H locs hP hD hS => ?_)
          have hP : va_P (dC, dI) xcl [(A 21, .inl (Z 2, 4, .inl (upd (M.2.2.1 21) (a1).toNatClampNeg 1))), (A 22, .inl (Z 0, 4, .inl (upd (M.2.2.1 22) (a1).toNatClampNeg a2))), (A 23, .inl (Z 0, 4, .inl (upd (M.2.2.1 23) (a1).toNatClampNeg a3))), (A 24, .inl (Z 0, 4, .inl (upd (M.2.2.1 24) (a1).toNatClampNeg a4))), (A 25, .inl (Z 0, 4, .inl (M.2.2.1 25))), (A 20, .inr (10, [.int (p10.2), .ref (A 21), .ref (A 22), .ref (A 23), .ref (A 24), .ref (A 25), .int (M.1 101), .ref (A 26), .ref (A 27), .ref (A 28), .int (M.1 102), .long (M.2.1 100), .int (M.1 103), .int (M.1 104), .int (M.1 105), .int (M.1 106), .int (M.1 107), .int (M.1 108), .long (M.2.1 101), .long (M.2.1 102), .long (M.2.1 103), .int (M.1 109), .int (M.1 110), .int (M.1 111), .int (M.1 112), .int (M.1 113), .long (M.2.1 104), .long (M.2.1 105), .long (M.2.1 106), .int (M.1 114), .int (M.1 115), .int (M.1 116), .int (M.1 117), .int (M.1 118), .int (M.1 119), .int (M.1 120), .int (M.1 121), .int (M.1 122), .int (M.1 123), .int (M.1 124), .long (M.2.1 107), .int (M.1 125), .ref (A 29), .ref (A 30), .ref (A 31)]))] H := hP
          have hD : va_D AA [(A 21, .inl (Z 2, 4, .inl (upd (M.2.2.1 21) (a1).toNatClampNeg 1))), (A 22, .inl (Z 0, 4, .inl (upd (M.2.2.1 22) (a1).toNatClampNeg a2))), (A 23, .inl (Z 0, 4, .inl (upd (M.2.2.1 23) (a1).toNatClampNeg a3))), (A 24, .inl (Z 0, 4, .inl (upd (M.2.2.1 24) (a1).toNatClampNeg a4))), (A 25, .inl (Z 0, 4, .inl (M.2.2.1 25))), (A 20, .inr (10, [.int (p10.2), .ref (A 21), .ref (A 22), .ref (A 23), .ref (A 24), .ref (A 25), .int (M.1 101), .ref (A 26), .ref (A 27), .ref (A 28), .int (M.1 102), .long (M.2.1 100), .int (M.1 103), .int (M.1 104), .int (M.1 105), .int (M.1 106), .int (M.1 107), .int (M.1 108), .long (M.2.1 101), .long (M.2.1 102), .long (M.2.1 103), .int (M.1 109), .int (M.1 110), .int (M.1 111), .int (M.1 112), .int (M.1 113), .long (M.2.1 104), .long (M.2.1 105), .long (M.2.1 106), .int (M.1 114), .int (M.1 115), .int (M.1 116), .int (M.1 117), .int (M.1 118), .int (M.1 119), .int (M.1 120), .int (M.1 121), .int (M.1 122), .int (M.1 123), .int (M.1 124), .long (M.2.1 107), .int (M.1 125), .ref (A 29), .ref (A 30), .ref (A 31)]))] := hD
          refine lv_aload_n hx hb d_R_rotor_190 rfl (lv_at hl 2 rfl) ?_
          refine va_get (D := (dC, dI)) (ci := 10) (v := .ref (A 25)) (C := "CentrifugeUnitModel") (T := xF10) (N := 45) hx hb htt xin10 hown hK hP 5 rfl rfl 5 (by decide) (htt _ tw_784) (fun _ h9 => h9) rfl d_R_rotor_191 ?_
          refine lv_iload_n hx hb d_R_rotor_194 rfl (lv_at hl 3 rfl) ?_
          refine lv_iload hx hb d_R_rotor_195 (lv_at hl 7 rfl) ?_
          refine va_iast (D := (dC, dI)) hx hb hK hP hD hS 4 0 rfl rfl (xrin (M := M) (z := z1) (by
          obtain ⟨q1, -⟩ := xth0 (M := M) (a := j4.2) (b := j6) (by rw [← hu8]; exact h11)
          have q2 : j2 = 0 := by
            by_cases e : j2 = 0
            · exact e
            · rw [hj4, F_R_rotor_j16, if_neg e] at q1; exact q1
          intro e
          rw [hj2, F_R_rotor_j6, if_pos e] at q2
          exact absurd q2 (by decide)) hz1) d_R_rotor_197 (fun H locs hP hD hS => ?_)
          have hP : va_P (dC, dI) xcl [(A 21, .inl (Z 2, 4, .inl (upd (M.2.2.1 21) (a1).toNatClampNeg 1))), (A 22, .inl (Z 0, 4, .inl (upd (M.2.2.1 22) (a1).toNatClampNeg a2))), (A 23, .inl (Z 0, 4, .inl (upd (M.2.2.1 23) (a1).toNatClampNeg a3))), (A 24, .inl (Z 0, 4, .inl (upd (M.2.2.1 24) (a1).toNatClampNeg a4))), (A 25, .inl (Z 0, 4, .inl (upd (M.2.2.1 25) (a1).toNatClampNeg a5))), (A 20, .inr (10, [.int (p10.2), .ref (A 21), .ref (A 22), .ref (A 23), .ref (A 24), .ref (A 25), .int (M.1 101), .ref (A 26), .ref (A 27), .ref (A 28), .int (M.1 102), .long (M.2.1 100), .int (M.1 103), .int (M.1 104), .int (M.1 105), .int (M.1 106), .int (M.1 107), .int (M.1 108), .long (M.2.1 101), .long (M.2.1 102), .long (M.2.1 103), .int (M.1 109), .int (M.1 110), .int (M.1 111), .int (M.1 112), .int (M.1 113), .long (M.2.1 104), .long (M.2.1 105), .long (M.2.1 106), .int (M.1 114), .int (M.1 115), .int (M.1 116), .int (M.1 117), .int (M.1 118), .int (M.1 119), .int (M.1 120), .int (M.1 121), .int (M.1 122), .int (M.1 123), .int (M.1 124), .long (M.2.1 107), .int (M.1 125), .ref (A 29), .ref (A 30), .ref (A 31)]))] H := hP
          have hD : va_D AA [(A 21, .inl (Z 2, 4, .inl (upd (M.2.2.1 21) (a1).toNatClampNeg 1))), (A 22, .inl (Z 0, 4, .inl (upd (M.2.2.1 22) (a1).toNatClampNeg a2))), (A 23, .inl (Z 0, 4, .inl (upd (M.2.2.1 23) (a1).toNatClampNeg a3))), (A 24, .inl (Z 0, 4, .inl (upd (M.2.2.1 24) (a1).toNatClampNeg a4))), (A 25, .inl (Z 0, 4, .inl (upd (M.2.2.1 25) (a1).toNatClampNeg a5))), (A 20, .inr (10, [.int (p10.2), .ref (A 21), .ref (A 22), .ref (A 23), .ref (A 24), .ref (A 25), .int (M.1 101), .ref (A 26), .ref (A 27), .ref (A 28), .int (M.1 102), .long (M.2.1 100), .int (M.1 103), .int (M.1 104), .int (M.1 105), .int (M.1 106), .int (M.1 107), .int (M.1 108), .long (M.2.1 101), .long (M.2.1 102), .long (M.2.1 103), .int (M.1 109), .int (M.1 110), .int (M.1 111), .int (M.1 112), .int (M.1 113), .long (M.2.1 104), .long (M.2.1 105), .long (M.2.1 106), .int (M.1 114), .int (M.1 115), .int (M.1 116), .int (M.1 117), .int (M.1 118), .int (M.1 119), .int (M.1 120), .int (M.1 121), .int (M.1 122), .int (M.1 123), .int (M.1 124), .long (M.2.1 107), .int (M.1 125), .ref (A 29), .ref (A 30), .ref (A 31)]))] := hD
          have hP9 := hP.sub (ws' := [(A 20, xc20 Z A (ap_R_rotor M ((p10.2), (upd (M.2.2.1 21) (a1).toNatClampNeg 1), (upd (M.2.2.1 22) (a1).toNatClampNeg a2), (upd (M.2.2.1 23) (a1).toNatClampNeg a3), (upd (M.2.2.1 24) (a1).toNatClampNeg a4), (upd (M.2.2.1 25) (a1).toNatClampNeg a5)))), (A 21, xc21 Z A (ap_R_rotor M ((p10.2), (upd (M.2.2.1 21) (a1).toNatClampNeg 1), (upd (M.2.2.1 22) (a1).toNatClampNeg a2), (upd (M.2.2.1 23) (a1).toNatClampNeg a3), (upd (M.2.2.1 24) (a1).toNatClampNeg a4), (upd (M.2.2.1 25) (a1).toNatClampNeg a5)))), (A 22, xc22 Z A (ap_R_rotor M ((p10.2), (upd (M.2.2.1 21) (a1).toNatClampNeg 1), (upd (M.2.2.1 22) (a1).toNatClampNeg a2), (upd (M.2.2.1 23) (a1).toNatClampNeg a3), (upd (M.2.2.1 24) (a1).toNatClampNeg a4), (upd (M.2.2.1 25) (a1).toNatClampNeg a5)))), (A 23, xc23 Z A (ap_R_rotor M ((p10.2), (upd (M.2.2.1 21) (a1).toNatClampNeg 1), (upd (M.2.2.1 22) (a1).toNatClampNeg a2), (upd (M.2.2.1 23) (a1).toNatClampNeg a3), (upd (M.2.2.1 24) (a1).toNatClampNeg a4), (upd (M.2.2.1 25) (a1).toNatClampNeg a5)))), (A 24, xc24 Z A (ap_R_rotor M ((p10.2), (upd (M.2.2.1 21) (a1).toNatClampNeg 1), (upd (M.2.2.1 22) (a1).toNatClampNeg a2), (upd (M.2.2.1 23) (a1).toNatClampNeg a3), (upd (M.2.2.1 24) (a1).toNatClampNeg a4), (upd (M.2.2.1 25) (a1).toNatClampNeg a5)))), (A 25, xc25 Z A (ap_R_rotor M ((p10.2), (upd (M.2.2.1 21) (a1).toNatClampNeg 1), (upd (M.2.2.1 22) (a1).toNatClampNeg a2), (upd (M.2.2.1 23) (a1).toNatClampNeg a3), (upd (M.2.2.1 24) (a1).toNatClampNeg a4), (upd (M.2.2.1 25) (a1).toNatClampNeg a5))))]) [5, 0, 1, 2, 3, 4] rfl
          have hD9 := hD.sub (ws' := [(A 20, xc20 Z A (ap_R_rotor M ((p10.2), (upd (M.2.2.1 21) (a1).toNatClampNeg 1), (upd (M.2.2.1 22) (a1).toNatClampNeg a2), (upd (M.2.2.1 23) (a1).toNatClampNeg a3), (upd (M.2.2.1 24) (a1).toNatClampNeg a4), (upd (M.2.2.1 25) (a1).toNatClampNeg a5)))), (A 21, xc21 Z A (ap_R_rotor M ((p10.2), (upd (M.2.2.1 21) (a1).toNatClampNeg 1), (upd (M.2.2.1 22) (a1).toNatClampNeg a2), (upd (M.2.2.1 23) (a1).toNatClampNeg a3), (upd (M.2.2.1 24) (a1).toNatClampNeg a4), (upd (M.2.2.1 25) (a1).toNatClampNeg a5)))), (A 22, xc22 Z A (ap_R_rotor M ((p10.2), (upd (M.2.2.1 21) (a1).toNatClampNeg 1), (upd (M.2.2.1 22) (a1).toNatClampNeg a2), (upd (M.2.2.1 23) (a1).toNatClampNeg a3), (upd (M.2.2.1 24) (a1).toNatClampNeg a4), (upd (M.2.2.1 25) (a1).toNatClampNeg a5)))), (A 23, xc23 Z A (ap_R_rotor M ((p10.2), (upd (M.2.2.1 21) (a1).toNatClampNeg 1), (upd (M.2.2.1 22) (a1).toNatClampNeg a2), (upd (M.2.2.1 23) (a1).toNatClampNeg a3), (upd (M.2.2.1 24) (a1).toNatClampNeg a4), (upd (M.2.2.1 25) (a1).toNatClampNeg a5)))), (A 24, xc24 Z A (ap_R_rotor M ((p10.2), (upd (M.2.2.1 21) (a1).toNatClampNeg 1), (upd (M.2.2.1 22) (a1).toNatClampNeg a2), (upd (M.2.2.1 23) (a1).toNatClampNeg a3), (upd (M.2.2.1 24) (a1).toNatClampNeg a4), (upd (M.2.2.1 25) (a1).toNatClampNeg a5)))), (A 25, xc25 Z A (ap_R_rotor M ((p10.2), (upd (M.2.2.1 21) (a1).toNatClampNeg 1), (upd (M.2.2.1 22) (a1).toNatClampNeg a2), (upd (M.2.2.1 23) (a1).toNatClampNeg a3), (upd (M.2.2.1 24) (a1).toNatClampNeg a4), (upd (M.2.2.1 25) (a1).toNatClampNeg a5))))]) [5, 0, 1, 2, 3, 4] (by decide) rfl
          exact W.vret hx hb hr (fun t ht hW => ⟨⟨((p10.2), (upd (M.2.2.1 21) (a1).toNatClampNeg 1), (upd (M.2.2.1 22) (a1).toNatClampNeg a2), (upd (M.2.2.1 23) (a1).toNatClampNeg a3), (upd (M.2.2.1 24) (a1).toNatClampNeg a4), (upd (M.2.2.1 25) (a1).toNatClampNeg a5)), rfl, (by rw [F_R_rotor, ← hz1, F_R_rotor_k1, ← hj2, F_R_rotor_k7, ← hj4, F_R_rotor_k17, ← hj6, F_R_rotor_k19, ← hu8, F_R_rotor_k20, if_pos h11]), xE_at hP9 hK hD9 ht hW⟩, hS.F ht⟩) hS.2.2 d_R_rotor_198
        · have hP9 := hP.sub (ws' := [(A 20, xc20 Z A (ap_R_rotor M ((p10.2), (M.2.2.1 21), (M.2.2.1 22), (M.2.2.1 23), (M.2.2.1 24), (M.2.2.1 25)))), (A 21, xc21 Z A (ap_R_rotor M ((p10.2), (M.2.2.1 21), (M.2.2.1 22), (M.2.2.1 23), (M.2.2.1 24), (M.2.2.1 25)))), (A 22, xc22 Z A (ap_R_rotor M ((p10.2), (M.2.2.1 21), (M.2.2.1 22), (M.2.2.1 23), (M.2.2.1 24), (M.2.2.1 25)))), (A 23, xc23 Z A (ap_R_rotor M ((p10.2), (M.2.2.1 21), (M.2.2.1 22), (M.2.2.1 23), (M.2.2.1 24), (M.2.2.1 25)))), (A 24, xc24 Z A (ap_R_rotor M ((p10.2), (M.2.2.1 21), (M.2.2.1 22), (M.2.2.1 23), (M.2.2.1 24), (M.2.2.1 25)))), (A 25, xc25 Z A (ap_R_rotor M ((p10.2), (M.2.2.1 21), (M.2.2.1 22), (M.2.2.1 23), (M.2.2.1 24), (M.2.2.1 25))))]) [5, 0, 1, 2, 3, 4] rfl
          have hD9 := hD.sub (ws' := [(A 20, xc20 Z A (ap_R_rotor M ((p10.2), (M.2.2.1 21), (M.2.2.1 22), (M.2.2.1 23), (M.2.2.1 24), (M.2.2.1 25)))), (A 21, xc21 Z A (ap_R_rotor M ((p10.2), (M.2.2.1 21), (M.2.2.1 22), (M.2.2.1 23), (M.2.2.1 24), (M.2.2.1 25)))), (A 22, xc22 Z A (ap_R_rotor M ((p10.2), (M.2.2.1 21), (M.2.2.1 22), (M.2.2.1 23), (M.2.2.1 24), (M.2.2.1 25)))), (A 23, xc23 Z A (ap_R_rotor M ((p10.2), (M.2.2.1 21), (M.2.2.1 22), (M.2.2.1 23), (M.2.2.1 24), (M.2.2.1 25)))), (A 24, xc24 Z A (ap_R_rotor M ((p10.2), (M.2.2.1 21), (M.2.2.1 22), (M.2.2.1 23), (M.2.2.1 24), (M.2.2.1 25)))), (A 25, xc25 Z A (ap_R_rotor M ((p10.2), (M.2.2.1 21), (M.2.2.1 22), (M.2.2.1 23), (M.2.2.1 24), (M.2.2.1 25))))]) [5, 0, 1, 2, 3, 4] (by decide) rfl
          exact W.vret hx hb hr (fun t ht hW => ⟨⟨((p10.2), (M.2.2.1 21), (M.2.2.1 22), (M.2.2.1 23), (M.2.2.1 24), (M.2.2.1 25)), rfl, (by rw [F_R_rotor, ← hz1, F_R_rotor_k1, ← hj2, F_R_rotor_k7, ← hj4, F_R_rotor_k17, ← hj6, F_R_rotor_k19, ← hu8, F_R_rotor_k20, if_neg h11]), xE_at hP9 hK hD9 ht hW⟩, hS.F ht⟩) hS.2.2 d_R_rotor_160
