set_option maxRecDepth 20000 in
theorem tp_20 : Cond.selects "CentrifugeUnitModel" ⟨"CentrifugeUnitModel", "steer", "()V"⟩ ⟨"CentrifugeUnitModel", "steer", "()V"⟩ ∈ xw := xw_of (List.mem_append_left _ (List.mem_of_getElem? (i := 20) (by decide +kernel))) rfl
set_option maxRecDepth 20000 in
theorem tw_780 : Cond.fieldLink "CentrifugeUnitModel" 7 "CentrifugeUnitModel" "told" "[Z" ∈ xw := xw_of (List.mem_append_right _ (List.mem_of_getElem? (i := 780) (by decide +kernel))) rfl
set_option maxRecDepth 20000 in
theorem tw_781 : Cond.fieldLink "CentrifugeUnitModel" 13 "CentrifugeUnitModel" "pattern" "[I" ∈ xw := xw_of (List.mem_append_right _ (List.mem_of_getElem? (i := 781) (by decide +kernel))) rfl
set_option maxRecDepth 20000 in
theorem tw_782 : Cond.fieldLink "CentrifugeUnitModel" 17 "CentrifugeUnitModel" "radius" "[I" ∈ xw := xw_of (List.mem_append_right _ (List.mem_of_getElem? (i := 782) (by decide +kernel))) rfl
set_option maxRecDepth 20000 in
theorem tw_783 : Cond.fieldLink "CentrifugeUnitModel" 20 "CentrifugeUnitModel" "limit" "[I" ∈ xw := xw_of (List.mem_append_right _ (List.mem_of_getElem? (i := 783) (by decide +kernel))) rfl
set_option maxRecDepth 20000 in
theorem tw_786 : Cond.fieldLink "CentrifugeUnitModel" 30 "CentrifugeUnitModel" "kind" "[I" ∈ xw := xw_of (List.mem_append_right _ (List.mem_of_getElem? (i := 786) (by decide +kernel))) rfl
set_option maxRecDepth 20000 in
theorem tw_787 : Cond.fieldLink "CentrifugeUnitModel" 33 "CentrifugeUnitModel" "goalOf" "[I" ∈ xw := xw_of (List.mem_append_right _ (List.mem_of_getElem? (i := 787) (by decide +kernel))) rfl
set_option maxRecDepth 20000 in
theorem tw_788 : Cond.fieldLink "CentrifugeUnitModel" 36 "CentrifugeUnitModel" "slope" "[I" ∈ xw := xw_of (List.mem_append_right _ (List.mem_of_getElem? (i := 788) (by decide +kernel))) rfl
set_option maxRecDepth 20000 in
theorem tw_797 : Cond.fieldLink "CentrifugeUnitModel" 189 "CentrifugeUnitModel" "first" "J" ∈ xw := xw_of (List.mem_append_right _ (List.mem_of_getElem? (i := 797) (by decide +kernel))) rfl
set_option maxRecDepth 20000 in
theorem tw_798 : Cond.fieldLink "CentrifugeUnitModel" 192 "CentrifugeUnitModel" "second" "J" ∈ xw := xw_of (List.mem_append_right _ (List.mem_of_getElem? (i := 798) (by decide +kernel))) rfl
set_option maxRecDepth 20000 in
theorem tw_809 : Cond.fieldLink "CentrifugeUnitModel" 211 "CentrifugeUnitModel" "firstPattern" "I" ∈ xw := xw_of (List.mem_append_right _ (List.mem_of_getElem? (i := 809) (by decide +kernel))) rfl
set_option maxRecDepth 20000 in
theorem tw_811 : Cond.fieldLink "CentrifugeUnitModel" 202 "CentrifugeUnitModel" "wrongPattern" "Z" ∈ xw := xw_of (List.mem_append_right _ (List.mem_of_getElem? (i := 811) (by decide +kernel))) rfl
set_option maxRecDepth 20000 in
theorem tw_820 : Cond.fieldLink "CentrifugeUnitModel" 237 "CentrifugeUnitModel" "records" "I" ∈ xw := xw_of (List.mem_append_right _ (List.mem_of_getElem? (i := 820) (by decide +kernel))) rfl
set_option maxRecDepth 20000 in
theorem tw_821 : Cond.fieldLink "CentrifugeUnitModel" 58 "CentrifugeUnitModel" "reasonOf" "[J" ∈ xw := xw_of (List.mem_append_right _ (List.mem_of_getElem? (i := 821) (by decide +kernel))) rfl
set_option maxRecDepth 20000 in
theorem tw_822 : Cond.fieldLink "CentrifugeUnitModel" 62 "CentrifugeUnitModel" "doseOf" "[J" ∈ xw := xw_of (List.mem_append_right _ (List.mem_of_getElem? (i := 822) (by decide +kernel))) rfl
set_option maxRecDepth 20000 in
theorem tw_823 : Cond.fieldLink "CentrifugeUnitModel" 65 "CentrifugeUnitModel" "greatestOf" "[J" ∈ xw := xw_of (List.mem_append_right _ (List.mem_of_getElem? (i := 823) (by decide +kernel))) rfl
set_option maxRecDepth 20000 in
theorem tw_929 : Cond.constantLong "CentrifugeUnitModel" 85 (10 : Int64) ∈ xw := xw_of (List.mem_append_right _ (List.mem_of_getElem? (i := 929) (by decide +kernel))) rfl
set_option maxRecDepth 20000 in
theorem tw_1025 : Cond.constantLong "CentrifugeUnitModel" 214 (3000 : Int64) ∈ xw := xw_of (List.mem_append_right _ (List.mem_of_getElem? (i := 1025) (by decide +kernel))) rfl
set_option maxRecDepth 20000 in
theorem tw_1030 : Cond.methodLink "CentrifugeUnitModel" 220 ⟨"CentrifugeUnitModel", "steer", "()V"⟩ ∈ xw := xw_of (List.mem_append_right _ (List.mem_of_getElem? (i := 1030) (by decide +kernel))) rfl
set_option maxRecDepth 20000 in
theorem tw_1032 : Cond.instanceMethod ⟨"CentrifugeUnitModel", "steer", "()V"⟩ ∈ xw := xw_of (List.mem_append_right _ (List.mem_of_getElem? (i := 1032) (by decide +kernel))) rfl
set_option maxRecDepth 20000 in
theorem tw_1033 : Cond.code ⟨"CentrifugeUnitModel", "steer", "()V"⟩ prog_12_method_22_code 3 (Option.none : Option Jvm.ClassFile.FieldType) ∈ xw := xw_of (List.mem_append_right _ (List.mem_of_getElem? (i := 1033) (by decide +kernel))) rfl
set_option maxRecDepth 20000 in
theorem tw_1036 : Cond.constantLong "CentrifugeUnitModel" 223 (1000000000 : Int64) ∈ xw := xw_of (List.mem_append_right _ (List.mem_of_getElem? (i := 1036) (by decide +kernel))) rfl
set_option maxRecDepth 20000 in
theorem tw_1057 : Cond.constantLong "CentrifugeUnitModel" 248 (1118 : Int64) ∈ xw := xw_of (List.mem_append_right _ (List.mem_of_getElem? (i := 1057) (by decide +kernel))) rfl
theorem xlt4 {x : Int32} (h0 : ¬ x < 0) (h : x < 4) : vp_in x 4 := by
  rw [Int32.lt_iff_toInt_lt] at h0 h
  refine xin_of ?_ ?_ <;> simp at h0 h ⊢ <;> omega
theorem xge4 {x : Int32} (h0 : 0 ≤ x) (h : x < 4) : vp_in x 4 := by
  rw [Int32.lt_iff_toInt_lt] at h
  rw [Int32.le_iff_toInt_le] at h0
  refine xin_of ?_ ?_ <;> simp at h0 h ⊢ <;> omega
theorem xrm16 {x : Int32} (h : 0 ≤ x) : vp_in (x - x / 16 * 16) 16 := by
  rw [Int32.le_iff_toInt_le] at h
  rw [vp_in_iff, xr16]
  have t2 := (xtm x.toInt).2
  have t3 := Int.tmod_nonneg 16 (by simpa using h)
  exact ⟨t3, by simpa using t2⟩
theorem xgtl {x : Int64} (h : ¬ lg_cmp x 0 = 0) : ¬ x = 0 := by
  intro q
  rw [q] at h
  exact h (by decide)
abbrev bc_R_read : ByteArray := prog_12_method_20_code
def y_R_read : MethodName := ⟨"CentrifugeUnitModel", "read", "(I)V"⟩
theorem d_R_read_0 : decode bc_R_read 0 = .ok (.iconst (-1), 1) := by decide +kernel
theorem d_R_read_1 : decode bc_R_read 1 = .ok (.istore_n 2, 1) := by decide +kernel
theorem d_R_read_2 : decode bc_R_read 2 = .ok (.iconst 0, 1) := by decide +kernel
theorem d_R_read_3 : decode bc_R_read 3 = .ok (.istore_n 3, 1) := by decide +kernel
theorem d_R_read_4 : decode bc_R_read 4 = .ok (.iload_n 3, 1) := by decide +kernel
theorem d_R_read_5 : decode bc_R_read 5 = .ok (.iconst 4, 1) := by decide +kernel
theorem d_R_read_6 : decode bc_R_read 6 = .ok (.if_icmp .ge 34, 3) := by decide +kernel
theorem d_R_read_9 : decode bc_R_read 9 = .ok (.aload_n 0, 1) := by decide +kernel
theorem d_R_read_10 : decode bc_R_read 10 = .ok (.getfield 7, 3) := by decide +kernel
theorem d_R_read_13 : decode bc_R_read 13 = .ok (.iload_n 3, 1) := by decide +kernel
theorem d_R_read_14 : decode bc_R_read 14 = .ok (.baload, 1) := by decide +kernel
theorem d_R_read_15 : decode bc_R_read 15 = .ok (.ifCond .eq 17, 3) := by decide +kernel
theorem d_R_read_18 : decode bc_R_read 18 = .ok (.aload_n 0, 1) := by decide +kernel
theorem d_R_read_19 : decode bc_R_read 19 = .ok (.getfield 13, 3) := by decide +kernel
theorem d_R_read_22 : decode bc_R_read 22 = .ok (.iload_n 3, 1) := by decide +kernel
theorem d_R_read_23 : decode bc_R_read 23 = .ok (.iaload, 1) := by decide +kernel
theorem d_R_read_24 : decode bc_R_read 24 = .ok (.iload_n 1, 1) := by decide +kernel
theorem d_R_read_25 : decode bc_R_read 25 = .ok (.if_icmp .ne 7, 3) := by decide +kernel
theorem d_R_read_28 : decode bc_R_read 28 = .ok (.iload_n 3, 1) := by decide +kernel
theorem d_R_read_29 : decode bc_R_read 29 = .ok (.goto 4, 3) := by decide +kernel
theorem d_R_read_32 : decode bc_R_read 32 = .ok (.iload_n 2, 1) := by decide +kernel
theorem d_R_read_33 : decode bc_R_read 33 = .ok (.istore_n 2, 1) := by decide +kernel
theorem d_R_read_34 : decode bc_R_read 34 = .ok (.iinc 3 1, 3) := by decide +kernel
theorem d_R_read_37 : decode bc_R_read 37 = .ok (.goto (-33), 3) := by decide +kernel
theorem d_R_read_40 : decode bc_R_read 40 = .ok (.aload_n 0, 1) := by decide +kernel
theorem d_R_read_41 : decode bc_R_read 41 = .ok (.iload_n 2, 1) := by decide +kernel
theorem d_R_read_42 : decode bc_R_read 42 = .ok (.ifCond .lt 18, 3) := by decide +kernel
theorem d_R_read_45 : decode bc_R_read 45 = .ok (.aload_n 0, 1) := by decide +kernel
theorem d_R_read_46 : decode bc_R_read 46 = .ok (.getfield 137, 3) := by decide +kernel
theorem d_R_read_49 : decode bc_R_read 49 = .ok (.ifCond .eq 15, 3) := by decide +kernel
theorem d_R_read_52 : decode bc_R_read 52 = .ok (.iload_n 1, 1) := by decide +kernel
theorem d_R_read_53 : decode bc_R_read 53 = .ok (.aload_n 0, 1) := by decide +kernel
theorem d_R_read_54 : decode bc_R_read 54 = .ok (.getfield 211, 3) := by decide +kernel
theorem d_R_read_57 : decode bc_R_read 57 = .ok (.if_icmp .eq 7, 3) := by decide +kernel
theorem d_R_read_60 : decode bc_R_read 60 = .ok (.iconst 1, 1) := by decide +kernel
theorem d_R_read_61 : decode bc_R_read 61 = .ok (.goto 4, 3) := by decide +kernel
theorem d_R_read_64 : decode bc_R_read 64 = .ok (.iconst 0, 1) := by decide +kernel
theorem d_R_read_65 : decode bc_R_read 65 = .ok (.putfield 202, 3) := by decide +kernel
theorem d_R_read_68 : decode bc_R_read 68 = .ok (.aload_n 0, 1) := by decide +kernel
theorem d_R_read_69 : decode bc_R_read 69 = .ok (.getfield 137, 3) := by decide +kernel
theorem d_R_read_72 : decode bc_R_read 72 = .ok (.ifCond .eq 4, 3) := by decide +kernel
theorem d_R_read_75 : decode bc_R_read 75 = .ok (.return_, 1) := by decide +kernel
theorem d_R_read_76 : decode bc_R_read 76 = .ok (.aload_n 0, 1) := by decide +kernel
theorem d_R_read_77 : decode bc_R_read 77 = .ok (.iconst 1, 1) := by decide +kernel
theorem d_R_read_78 : decode bc_R_read 78 = .ok (.putfield 137, 3) := by decide +kernel
theorem d_R_read_81 : decode bc_R_read 81 = .ok (.aload_n 0, 1) := by decide +kernel
theorem d_R_read_82 : decode bc_R_read 82 = .ok (.iload_n 1, 1) := by decide +kernel
theorem d_R_read_83 : decode bc_R_read 83 = .ok (.putfield 211, 3) := by decide +kernel
theorem d_R_read_86 : decode bc_R_read 86 = .ok (.aload_n 0, 1) := by decide +kernel
theorem d_R_read_87 : decode bc_R_read 87 = .ok (.iload_n 2, 1) := by decide +kernel
theorem d_R_read_88 : decode bc_R_read 88 = .ok (.putfield 49, 3) := by decide +kernel
theorem d_R_read_91 : decode bc_R_read 91 = .ok (.return_, 1) := by decide +kernel
abbrev ap_R_read (M : XM) (u : (Int32 × Int32 × Int32 × Int32)) : XM := ((va_up (va_up (va_up (va_up M.1 117 (u.1)) 114 (u.2.1)) 115 (u.2.2.1)) 116 (u.2.2.2)), M.2)
def F_R_read_k10 (M : XM) (a1 : Int32) (j1 : Int32) (j3 : Int32) (j5 : Int32) (j7 : Int32) (j9 : Int32) : (Int32 × Int32 × Int32 × Int32) := (if (M.1 114) = 0 then (j9, 1, a1, j7) else (j9, (M.1 114), (M.1 115), (M.1 116)))
def F_R_read_j9 (M : XM) (a1 : Int32) (j1 : Int32) (j3 : Int32) (j5 : Int32) (j7 : Int32) : Int32 := (if j7 < 0 then 1 else (if (M.1 114) = 0 then 0 else (if a1 = (M.1 115) then 0 else 1)))
def F_R_read_k8 (M : XM) (a1 : Int32) (j1 : Int32) (j3 : Int32) (j5 : Int32) (j7 : Int32) : (Int32 × Int32 × Int32 × Int32) := (F_R_read_k10 M a1 j1 j3 j5 j7 (F_R_read_j9 M a1 j1 j3 j5 j7))
def F_R_read_j7 (M : XM) (a1 : Int32) (j1 : Int32) (j3 : Int32) (j5 : Int32) : Int32 := (if ((M.2.2.1 21) 3) = 0 then j5 else (if ((M.2.2.1 22) 3) = a1 then 3 else j5))
def F_R_read_k6 (M : XM) (a1 : Int32) (j1 : Int32) (j3 : Int32) (j5 : Int32) : (Int32 × Int32 × Int32 × Int32) := (F_R_read_k8 M a1 j1 j3 j5 (F_R_read_j7 M a1 j1 j3 j5))
def F_R_read_j5 (M : XM) (a1 : Int32) (j1 : Int32) (j3 : Int32) : Int32 := (if ((M.2.2.1 21) 2) = 0 then j3 else (if ((M.2.2.1 22) 2) = a1 then 2 else j3))
def F_R_read_k4 (M : XM) (a1 : Int32) (j1 : Int32) (j3 : Int32) : (Int32 × Int32 × Int32 × Int32) := (F_R_read_k6 M a1 j1 j3 (F_R_read_j5 M a1 j1 j3))
def F_R_read_j3 (M : XM) (a1 : Int32) (j1 : Int32) : Int32 := (if ((M.2.2.1 21) 1) = 0 then j1 else (if ((M.2.2.1 22) 1) = a1 then 1 else j1))
def F_R_read_k2 (M : XM) (a1 : Int32) (j1 : Int32) : (Int32 × Int32 × Int32 × Int32) := (F_R_read_k4 M a1 j1 (F_R_read_j3 M a1 j1))
def F_R_read_j1 (M : XM) (a1 : Int32) : Int32 := (if ((M.2.2.1 21) 0) = 0 then (-1) else (if ((M.2.2.1 22) 0) = a1 then 0 else (-1)))
def F_R_read (M : XM) (a1 : Int32) : (Int32 × Int32 × Int32 × Int32) := (F_R_read_k2 M a1 (F_R_read_j1 M a1))
set_option maxHeartbeats 4000000 in
set_option maxRecDepth 100000 in
theorem c_R_read (l : Launch) (dC : Nat → ClassId) (dI : Nat → Nat → Nat) (Z : Nat → ClassId) (A : Nat → Nat) (sz : Nat) (M : XM) (a1 : Int32) : Met l y_R_read (.code y_R_read bc_R_read 4 none :: xw) ({ frames := 0, cells := 0, slots := 0, locals := 0 }) (va_Pc [.ref (A 20), .int a1] (xB (dC, dI) xcl (xty Z) sz [(A 20, xc20 Z A M), (A 21, xc21 Z A M), (A 22, xc22 Z A M)])) (va_Qv (fun u : (Int32 × Int32 × Int32 × Int32) => u = F_R_read M a1) (fun u => xE (dC, dI) xcl (xty Z) (va_A [(A 20, xc20 Z A M), (A 21, xc21 Z A M), (A 22, xc22 Z A M)] sz) [(A 20, xc20 Z A (ap_R_read M u)), (A 21, xc21 Z A (ap_R_read M u)), (A 22, xc22 Z A (ap_R_read M u))]) (va_A [(A 20, xc20 Z A M), (A 21, xc21 Z A M), (A 22, xc22 Z A M)] sz)) 0 0 (va_A [(A 20, xc20 Z A M), (A 21, xc21 Z A M), (A 22, xc22 Z A M)] sz) := by
  refine Met.ofW (cc := bc_R_read) (maxL := 4) (ret := none) (by decide) rfl ?_
  intro p e s m args below meth c s₁ B hml hv
  obtain ⟨rfl, hsz, hP, hK, hD0, hq⟩ := hv
  have hx := B.exec
  have hb := B.bytes
  have hr := B.returns
  have hts := atoms_spec (ws := (.code y_R_read bc_R_read 4 none :: xw)) B.pre
  have htt : ∀ w ∈ xw, w.before _ s = true := fun w h => hts w (List.mem_cons_of_mem _ h)
  have hown : s.vm.findClass "CentrifugeUnitModel" = some m.cls := findClass_of_methodNamed B.named
  have hlocks := B.notSynchronized
  subst hsz
  have hD := hD0.self (sz := s.heap.size)
  generalize hAe : va_A [(A 20, xc20 Z A M), (A 21, xc21 Z A M), (A 22, xc22 Z A M)] s.heap.size = AA at hD ⊢
  have hA : ∀ q : Nat, s.heap.size ≤ q → AA q := fun q h => by rw [← hAe]; exact Or.inr h
  have hS : va_S AA s.heap s.heap [] := va_S.rf
  have hP : va_P (dC, dI) xcl [(A 20, .inr (10, [.int (M.1 100), .ref (A 21), .ref (A 22), .ref (A 23), .ref (A 24), .ref (A 25), .int (M.1 101), .ref (A 26), .ref (A 27), .ref (A 28), .int (M.1 102), .long (M.2.1 100), .int (M.1 103), .int (M.1 104), .int (M.1 105), .int (M.1 106), .int (M.1 107), .int (M.1 108), .long (M.2.1 101), .long (M.2.1 102), .long (M.2.1 103), .int (M.1 109), .int (M.1 110), .int (M.1 111), .int (M.1 112), .int (M.1 113), .long (M.2.1 104), .long (M.2.1 105), .long (M.2.1 106), .int (M.1 114), .int (M.1 115), .int (M.1 116), .int (M.1 117), .int (M.1 118), .int (M.1 119), .int (M.1 120), .int (M.1 121), .int (M.1 122), .int (M.1 123), .int (M.1 124), .long (M.2.1 107), .int (M.1 125), .ref (A 29), .ref (A 30), .ref (A 31)])), (A 21, .inl (Z 2, 4, .inl (M.2.2.1 21))), (A 22, .inl (Z 0, 4, .inl (M.2.2.1 22)))] s.heap := hP
  have hD : va_D AA [(A 20, .inr (10, [.int (M.1 100), .ref (A 21), .ref (A 22), .ref (A 23), .ref (A 24), .ref (A 25), .int (M.1 101), .ref (A 26), .ref (A 27), .ref (A 28), .int (M.1 102), .long (M.2.1 100), .int (M.1 103), .int (M.1 104), .int (M.1 105), .int (M.1 106), .int (M.1 107), .int (M.1 108), .long (M.2.1 101), .long (M.2.1 102), .long (M.2.1 103), .int (M.1 109), .int (M.1 110), .int (M.1 111), .int (M.1 112), .int (M.1 113), .long (M.2.1 104), .long (M.2.1 105), .long (M.2.1 106), .int (M.1 114), .int (M.1 115), .int (M.1 116), .int (M.1 117), .int (M.1 118), .int (M.1 119), .int (M.1 120), .int (M.1 121), .int (M.1 122), .int (M.1 123), .int (M.1 124), .long (M.2.1 107), .int (M.1 125), .ref (A 29), .ref (A 30), .ref (A 31)])), (A 21, .inl (Z 2, 4, .inl (M.2.2.1 21))), (A 22, .inl (Z 0, 4, .inl (M.2.2.1 22)))] := hD
  have hl := lv_entry ([.ref (A 20), .int a1]) (n := 4) (Nat.le_of_ble_eq_true rfl)
  rw [lg_entry_eq]
  generalize (lg_sl ([.ref (A 20), .int a1]) ++ List.replicate (4 - (lg_sl ([.ref (A 20), .int a1])).length) Slot.unset).toArray = ls at hl ⊢
  have hl : lv_has ls 4 [(0, .ref (A 20)), (1, .int a1)] := hl
  refine lv_iconst (v := (-1)) hx hb d_R_read_0 (by decide) ?_
  refine lv_istore_n (lv' := [(2, .int (-1)), (0, .ref (A 20)), (1, .int a1)]) hx hb d_R_read_1 rfl hl (by decide) rfl (fun ls hl => ?_)
  refine lv_iconst (v := 0) hx hb d_R_read_2 (by decide) ?_
  refine lv_istore_n (lv' := [(3, .int 0), (2, .int (-1)), (0, .ref (A 20)), (1, .int a1)]) hx hb d_R_read_3 rfl hl (by decide) rfl (fun ls hl => ?_)
  refine lv_iload_n hx hb d_R_read_4 rfl (lv_at hl 0 rfl) ?_
  refine lv_iconst (v := 4) hx hb d_R_read_5 (by decide) ?_
  refine lv_icmp_ge (tgt := 40) hx hb d_R_read_6 rfl (fun h => absurd h (by decide)) (fun _ => ?_)
  refine lv_aload_n hx hb d_R_read_9 rfl (lv_at hl 2 rfl) ?_
  refine va_get (D := (dC, dI)) (ci := 10) (v := .ref (A 21)) (C := "CentrifugeUnitModel") (T := xF10) (N := 45) hx hb htt xin10 hown hK hP 0 rfl rfl 1 (by decide) (htt _ tw_780) (fun _ h9 => h9) rfl d_R_read_10 ?_
  refine lv_iload_n hx hb d_R_read_13 rfl (lv_at hl 0 rfl) ?_
  refine va_zald (D := (dC, dI)) hx hb hK hP 1 2 rfl rfl (by unfold vp_in; decide) d_R_read_14 ?_
  refine W.eq (g2 := F0 m 15 ls [.int ((M.2.2.1 21) 0)]) rfl ?_
  refine xj_p 4 33 (fun q9 : Int32 => [(3, .int 0), (2, .int (-1)), (0, .ref (A 20)), (1, .int a1)]) (fun q9 : Int32 => [.int q9]) (fun q9 : Int32 => q9 = F_R_read_j1 M a1) (fun hJ2 => ?_) (fun ls j1 hl hj1 => ?_)
  · refine lv_if_eq (tgt := 32) hx hb d_R_read_15 rfl (fun h21 => ?_) (fun h21 => ?_)
    · refine lv_iload_n hx hb d_R_read_32 rfl (lv_at hl 1 rfl) ?_
      exact hJ2 _ (-1) (lv_sub hl [0, 1, 2, 3] rfl) (by rw [F_R_read_j1, if_pos h21])
    · refine lv_aload_n hx hb d_R_read_18 rfl (lv_at hl 2 rfl) ?_
      refine va_get (D := (dC, dI)) (ci := 10) (v := .ref (A 22)) (C := "CentrifugeUnitModel") (T := xF10) (N := 45) hx hb htt xin10 hown hK hP 0 rfl rfl 2 (by decide) (htt _ tw_781) (fun _ h9 => h9) rfl d_R_read_19 ?_
      refine lv_iload_n hx hb d_R_read_22 rfl (lv_at hl 0 rfl) ?_
      refine va_iald (D := (dC, dI)) hx hb hK hP 2 0 rfl rfl (by unfold vp_in; decide) d_R_read_23 ?_
      refine W.eq (g2 := F0 m 24 ls [.int ((M.2.2.1 22) 0)]) rfl ?_
      refine lv_iload_n hx hb d_R_read_24 rfl (lv_at hl 3 rfl) ?_
      refine lv_icmp_ne (tgt := 32) hx hb d_R_read_25 rfl (fun h22 => ?_) (fun h22 => ?_)
      · refine lv_iload_n hx hb d_R_read_32 rfl (lv_at hl 1 rfl) ?_
        exact hJ2 _ (-1) (lv_sub hl [0, 1, 2, 3] rfl) (by rw [F_R_read_j1, if_neg h21, if_neg h22])
      · refine lv_iload_n hx hb d_R_read_28 rfl (lv_at hl 0 rfl) ?_
        refine lv_goto (tgt := 33) hx hb d_R_read_29 rfl ?_
        exact hJ2 _ 0 (lv_sub hl [0, 1, 2, 3] rfl) (by rw [F_R_read_j1, if_neg h21, if_pos h22])
  · refine lv_istore_n (lv' := [(2, .int j1), (3, .int 0), (0, .ref (A 20)), (1, .int a1)]) hx hb d_R_read_33 rfl hl (by decide) rfl (fun ls hl => ?_)
    refine lv_iinc (k := 1) (v := 1) (lv' := [(3, .int 1), (2, .int j1), (0, .ref (A 20)), (1, .int a1)]) hx hb d_R_read_34 hl rfl (by decide) (by decide) rfl (fun ls hl => ?_)
    refine lv_goto (tgt := 4) hx hb d_R_read_37 rfl ?_
    refine lv_iload_n hx hb d_R_read_4 rfl (lv_at hl 0 rfl) ?_
    refine lv_iconst (v := 4) hx hb d_R_read_5 (by decide) ?_
    refine lv_icmp_ge (tgt := 40) hx hb d_R_read_6 rfl (fun h => absurd h (by decide)) (fun _ => ?_)
    refine lv_aload_n hx hb d_R_read_9 rfl (lv_at hl 2 rfl) ?_
    refine va_get (D := (dC, dI)) (ci := 10) (v := .ref (A 21)) (C := "CentrifugeUnitModel") (T := xF10) (N := 45) hx hb htt xin10 hown hK hP 0 rfl rfl 1 (by decide) (htt _ tw_780) (fun _ h9 => h9) rfl d_R_read_10 ?_
    refine lv_iload_n hx hb d_R_read_13 rfl (lv_at hl 0 rfl) ?_
    refine va_zald (D := (dC, dI)) hx hb hK hP 1 2 rfl rfl (by unfold vp_in; decide) d_R_read_14 ?_
    refine W.eq (g2 := F0 m 15 ls [.int ((M.2.2.1 21) 1)]) rfl ?_
    refine xj_p 4 33 (fun q9 : Int32 => [(3, .int 1), (2, .int j1), (0, .ref (A 20)), (1, .int a1)]) (fun q9 : Int32 => [.int q9]) (fun q9 : Int32 => q9 = F_R_read_j3 M a1 j1) (fun hJ4 => ?_) (fun ls j3 hl hj3 => ?_)
    · refine lv_if_eq (tgt := 32) hx hb d_R_read_15 rfl (fun h19 => ?_) (fun h19 => ?_)
      · refine lv_iload_n hx hb d_R_read_32 rfl (lv_at hl 1 rfl) ?_
        exact hJ4 _ j1 (lv_sub hl [0, 1, 2, 3] rfl) (by rw [F_R_read_j3, if_pos h19])
      · refine lv_aload_n hx hb d_R_read_18 rfl (lv_at hl 2 rfl) ?_
        refine va_get (D := (dC, dI)) (ci := 10) (v := .ref (A 22)) (C := "CentrifugeUnitModel") (T := xF10) (N := 45) hx hb htt xin10 hown hK hP 0 rfl rfl 2 (by decide) (htt _ tw_781) (fun _ h9 => h9) rfl d_R_read_19 ?_
        refine lv_iload_n hx hb d_R_read_22 rfl (lv_at hl 0 rfl) ?_
        refine va_iald (D := (dC, dI)) hx hb hK hP 2 0 rfl rfl (by unfold vp_in; decide) d_R_read_23 ?_
        refine W.eq (g2 := F0 m 24 ls [.int ((M.2.2.1 22) 1)]) rfl ?_
        refine lv_iload_n hx hb d_R_read_24 rfl (lv_at hl 3 rfl) ?_
        refine lv_icmp_ne (tgt := 32) hx hb d_R_read_25 rfl (fun h20 => ?_) (fun h20 => ?_)
        · refine lv_iload_n hx hb d_R_read_32 rfl (lv_at hl 1 rfl) ?_
          exact hJ4 _ j1 (lv_sub hl [0, 1, 2, 3] rfl) (by rw [F_R_read_j3, if_neg h19, if_neg h20])
        · refine lv_iload_n hx hb d_R_read_28 rfl (lv_at hl 0 rfl) ?_
          refine lv_goto (tgt := 33) hx hb d_R_read_29 rfl ?_
          exact hJ4 _ 1 (lv_sub hl [0, 1, 2, 3] rfl) (by rw [F_R_read_j3, if_neg h19, if_pos h20])
    · refine lv_istore_n (lv' := [(2, .int j3), (3, .int 1), (0, .ref (A 20)), (1, .int a1)]) hx hb d_R_read_33 rfl hl (by decide) rfl (fun ls hl => ?_)
      refine lv_iinc (k := 1) (v := 2) (lv' := [(3, .int 2), (2, .int j3), (0, .ref (A 20)), (1, .int a1)]) hx hb d_R_read_34 hl rfl (by decide) (by decide) rfl (fun ls hl => ?_)
      refine lv_goto (tgt := 4) hx hb d_R_read_37 rfl ?_
      refine lv_iload_n hx hb d_R_read_4 rfl (lv_at hl 0 rfl) ?_
      refine lv_iconst (v := 4) hx hb d_R_read_5 (by decide) ?_
      refine lv_icmp_ge (tgt := 40) hx hb d_R_read_6 rfl (fun h => absurd h (by decide)) (fun _ => ?_)
      refine lv_aload_n hx hb d_R_read_9 rfl (lv_at hl 2 rfl) ?_
      refine va_get (D := (dC, dI)) (ci := 10) (v := .ref (A 21)) (C := "CentrifugeUnitModel") (T := xF10) (N := 45) hx hb htt xin10 hown hK hP 0 rfl rfl 1 (by decide) (htt _ tw_780) (fun _ h9 => h9) rfl d_R_read_10 ?_
      refine lv_iload_n hx hb d_R_read_13 rfl (lv_at hl 0 rfl) ?_
      refine va_zald (D := (dC, dI)) hx hb hK hP 1 2 rfl rfl (by unfold vp_in; decide) d_R_read_14 ?_
      refine W.eq (g2 := F0 m 15 ls [.int ((M.2.2.1 21) 2)]) rfl ?_
      refine xj_p 4 33 (fun q9 : Int32 => [(3, .int 2), (2, .int j3), (0, .ref (A 20)), (1, .int a1)]) (fun q9 : Int32 => [.int q9]) (fun q9 : Int32 => q9 = F_R_read_j5 M a1 j1 j3) (fun hJ6 => ?_) (fun ls j5 hl hj5 => ?_)
      · refine lv_if_eq (tgt := 32) hx hb d_R_read_15 rfl (fun h17 => ?_) (fun h17 => ?_)
        · refine lv_iload_n hx hb d_R_read_32 rfl (lv_at hl 1 rfl) ?_
          exact hJ6 _ j3 (lv_sub hl [0, 1, 2, 3] rfl) (by rw [F_R_read_j5, if_pos h17])
        · refine lv_aload_n hx hb d_R_read_18 rfl (lv_at hl 2 rfl) ?_
          refine va_get (D := (dC, dI)) (ci := 10) (v := .ref (A 22)) (C := "CentrifugeUnitModel") (T := xF10) (N := 45) hx hb htt xin10 hown hK hP 0 rfl rfl 2 (by decide) (htt _ tw_781) (fun _ h9 => h9) rfl d_R_read_19 ?_
          refine lv_iload_n hx hb d_R_read_22 rfl (lv_at hl 0 rfl) ?_
          refine va_iald (D := (dC, dI)) hx hb hK hP 2 0 rfl rfl (by unfold vp_in; decide) d_R_read_23 ?_
          refine W.eq (g2 := F0 m 24 ls [.int ((M.2.2.1 22) 2)]) rfl ?_
          refine lv_iload_n hx hb d_R_read_24 rfl (lv_at hl 3 rfl) ?_
          refine lv_icmp_ne (tgt := 32) hx hb d_R_read_25 rfl (fun h18 => ?_) (fun h18 => ?_)
          · refine lv_iload_n hx hb d_R_read_32 rfl (lv_at hl 1 rfl) ?_
            exact hJ6 _ j3 (lv_sub hl [0, 1, 2, 3] rfl) (by rw [F_R_read_j5, if_neg h17, if_neg h18])
          · refine lv_iload_n hx hb d_R_read_28 rfl (lv_at hl 0 rfl) ?_
            refine lv_goto (tgt := 33) hx hb d_R_read_29 rfl ?_
            exact hJ6 _ 2 (lv_sub hl [0, 1, 2, 3] rfl) (by rw [F_R_read_j5, if_neg h17, if_pos h18])
      · refine lv_istore_n (lv' := [(2, .int j5), (3, .int 2), (0, .ref (A 20)), (1, .int a1)]) hx hb d_R_read_33 rfl hl (by decide) rfl (fun ls hl => ?_)
        refine lv_iinc (k := 1) (v := 3) (lv' := [(3, .int 3), (2, .int j5), (0, .ref (A 20)), (1, .int a1)]) hx hb d_R_read_34 hl rfl (by decide) (by decide) rfl (fun ls hl => ?_)
        refine lv_goto (tgt := 4) hx hb d_R_read_37 rfl ?_
        refine lv_iload_n hx hb d_R_read_4 rfl (lv_at hl 0 rfl) ?_
        refine lv_iconst (v := 4) hx hb d_R_read_5 (by decide) ?_
        refine lv_icmp_ge (tgt := 40) hx hb d_R_read_6 rfl (fun h => absurd h (by decide)) (fun _ => ?_)
        refine lv_aload_n hx hb d_R_read_9 rfl (lv_at hl 2 rfl) ?_
        refine va_get (D := (dC, dI)) (ci := 10) (v := .ref (A 21)) (C := "CentrifugeUnitModel") (T := xF10) (N := 45) hx hb htt xin10 hown hK hP 0 rfl rfl 1 (by decide) (htt _ tw_780) (fun _ h9 => h9) rfl d_R_read_10 ?_
        refine lv_iload_n hx hb d_R_read_13 rfl (lv_at hl 0 rfl) ?_
        refine va_zald (D := (dC, dI)) hx hb hK hP 1 2 rfl rfl (by unfold vp_in; decide) d_R_read_14 ?_
        refine W.eq (g2 := F0 m 15 ls [.int ((M.2.2.1 21) 3)]) rfl ?_
        refine xj_p 4 33 (fun q9 : Int32 => [(3, .int 3), (2, .int j5), (0, .ref (A 20)), (1, .int a1)]) (fun q9 : Int32 => [.int q9]) (fun q9 : Int32 => q9 = F_R_read_j7 M a1 j1 j3 j5) (fun hJ8 => ?_) (fun ls j7 hl hj7 => ?_)
        · refine lv_if_eq (tgt := 32) hx hb d_R_read_15 rfl (fun h15 => ?_) (fun h15 => ?_)
          · refine lv_iload_n hx hb d_R_read_32 rfl (lv_at hl 1 rfl) ?_
            exact hJ8 _ j5 (lv_sub hl [0, 1, 2, 3] rfl) (by rw [F_R_read_j7, if_pos h15])
          · refine lv_aload_n hx hb d_R_read_18 rfl (lv_at hl 2 rfl) ?_
            refine va_get (D := (dC, dI)) (ci := 10) (v := .ref (A 22)) (C := "CentrifugeUnitModel") (T := xF10) (N := 45) hx hb htt xin10 hown hK hP 0 rfl rfl 2 (by decide) (htt _ tw_781) (fun _ h9 => h9) rfl d_R_read_19 ?_
            refine lv_iload_n hx hb d_R_read_22 rfl (lv_at hl 0 rfl) ?_
            refine va_iald (D := (dC, dI)) hx hb hK hP 2 0 rfl rfl (by unfold vp_in; decide) d_R_read_23 ?_
            refine W.eq (g2 := F0 m 24 ls [.int ((M.2.2.1 22) 3)]) rfl ?_
            refine lv_iload_n hx hb d_R_read_24 rfl (lv_at hl 3 rfl) ?_
            refine lv_icmp_ne (tgt := 32) hx hb d_R_read_25 rfl (fun h16 => ?_) (fun h16 => ?_)
            · refine lv_iload_n hx hb d_R_read_32 rfl (lv_at hl 1 rfl) ?_
              exact hJ8 _ j5 (lv_sub hl [0, 1, 2, 3] rfl) (by rw [F_R_read_j7, if_neg h15, if_neg h16])
            · refine lv_iload_n hx hb d_R_read_28 rfl (lv_at hl 0 rfl) ?_
              refine lv_goto (tgt := 33) hx hb d_R_read_29 rfl ?_
              exact hJ8 _ 3 (lv_sub hl [0, 1, 2, 3] rfl) (by rw [F_R_read_j7, if_neg h15, if_pos h16])
        · refine lv_istore_n (lv' := [(2, .int j7), (3, .int 3), (0, .ref (A 20)), (1, .int a1)]) hx hb d_R_read_33 rfl hl (by decide) rfl (fun ls hl => ?_)
          refine lv_iinc (k := 1) (v := 4) (lv' := [(3, .int 4), (2, .int j7), (0, .ref (A 20)), (1, .int a1)]) hx hb d_R_read_34 hl rfl (by decide) (by decide) rfl (fun ls hl => ?_)
          refine lv_goto (tgt := 4) hx hb d_R_read_37 rfl ?_
          refine lv_iload_n hx hb d_R_read_4 rfl (lv_at hl 0 rfl) ?_
          refine lv_iconst (v := 4) hx hb d_R_read_5 (by decide) ?_
          refine lv_icmp_ge (tgt := 40) hx hb d_R_read_6 rfl (fun _ => ?_) (fun h => absurd h (by decide))
          refine lv_aload_n hx hb d_R_read_40 rfl (lv_at hl 2 rfl) ?_
          refine lv_iload_n hx hb d_R_read_41 rfl (lv_at hl 1 rfl) ?_
          refine xj_p 4 65 (fun q9 : Int32 => [(3, .int 4), (2, .int j7), (0, .ref (A 20)), (1, .int a1)]) (fun q9 : Int32 => [.int q9, .ref (A 20)]) (fun q9 : Int32 => q9 = F_R_read_j9 M a1 j1 j3 j5 j7) (fun hJ10 => ?_) (fun ls j9 hl hj9 => ?_)
          · refine lv_if_lt (tgt := 60) hx hb d_R_read_42 rfl (fun h12 => ?_) (fun h12 => ?_)
            · refine lv_iconst (v := 1) hx hb d_R_read_60 (by decide) ?_
              refine lv_goto (tgt := 65) hx hb d_R_read_61 rfl ?_
              exact hJ10 _ 1 (lv_sub hl [0, 1, 2, 3] rfl) (by rw [F_R_read_j9, if_pos h12])
            · refine lv_aload_n hx hb d_R_read_45 rfl (lv_at hl 2 rfl) ?_
              refine va_get (D := (dC, dI)) (ci := 10) (v := .int (M.1 114)) (C := "CentrifugeUnitModel") (T := xF10) (N := 45) hx hb htt xin10 hown hK hP 0 rfl rfl 29 (by decide) (htt _ tw_808) (fun _ h9 => h9) rfl d_R_read_46 ?_
              refine lv_if_eq (tgt := 64) hx hb d_R_read_49 rfl (fun h13 => ?_) (fun h13 => ?_)
              · refine lv_iconst (v := 0) hx hb d_R_read_64 (by decide) ?_
                exact hJ10 _ 0 (lv_sub hl [0, 1, 2, 3] rfl) (by rw [F_R_read_j9, if_neg h12, if_pos h13])
              · refine lv_iload_n hx hb d_R_read_52 rfl (lv_at hl 3 rfl) ?_
                refine lv_aload_n hx hb d_R_read_53 rfl (lv_at hl 2 rfl) ?_
                refine va_get (D := (dC, dI)) (ci := 10) (v := .int (M.1 115)) (C := "CentrifugeUnitModel") (T := xF10) (N := 45) hx hb htt xin10 hown hK hP 0 rfl rfl 30 (by decide) (htt _ tw_809) (fun _ h9 => h9) rfl d_R_read_54 ?_
                refine lv_icmp_eq (tgt := 64) hx hb d_R_read_57 rfl (fun h14 => ?_) (fun h14 => ?_)
                · refine lv_iconst (v := 0) hx hb d_R_read_64 (by decide) ?_
                  exact hJ10 _ 0 (lv_sub hl [0, 1, 2, 3] rfl) (by rw [F_R_read_j9, if_neg h12, if_neg h13, if_pos h14])
                · refine lv_iconst (v := 1) hx hb d_R_read_60 (by decide) ?_
                  refine lv_goto (tgt := 65) hx hb d_R_read_61 rfl ?_
                  exact hJ10 _ 1 (lv_sub hl [0, 1, 2, 3] rfl) (by rw [F_R_read_j9, if_neg h12, if_neg h13, if_neg h14])
          · refine va_put (D := (dC, dI)) (ci := 10) (v := .int j9) (ty := .boolean) (C := "CentrifugeUnitModel") (T := xF10) (N := 45) hx hb htt xin10 xT10 xTo10 xNm10 hown hK hP hD hS 0 rfl rfl 32 (by decide) (htt _ tw_811) (fun _ h9 => h9) rfl (by decide +kernel) (xz_nar (by rw [hj9, F_R_read_j9]; (repeat' split) <;> simp)) (xz_fit (by rw [hj9, F_R_read_j9]; (repeat' split) <;> simp)) (Nat.le_of_ble_eq_true rfl) d_R_read_65 (fun H locs hP hD hS => ?_)
            have hP : va_P (dC, dI) xcl [(A 20, .inr (10, [.int (M.1 100), .ref (A 21), .ref (A 22), .ref (A 23), .ref (A 24), .ref (A 25), .int (M.1 101), .ref (A 26), .ref (A 27), .ref (A 28), .int (M.1 102), .long (M.2.1 100), .int (M.1 103), .int (M.1 104), .int (M.1 105), .int (M.1 106), .int (M.1 107), .int (M.1 108), .long (M.2.1 101), .long (M.2.1 102), .long (M.2.1 103), .int (M.1 109), .int (M.1 110), .int (M.1 111), .int (M.1 112), .int (M.1 113), .long (M.2.1 104), .long (M.2.1 105), .long (M.2.1 106), .int (M.1 114), .int (M.1 115), .int (M.1 116), .int j9, .int (M.1 118), .int (M.1 119), .int (M.1 120), .int (M.1 121), .int (M.1 122), .int (M.1 123), .int (M.1 124), .long (M.2.1 107), .int (M.1 125), .ref (A 29), .ref (A 30), .ref (A 31)])), (A 21, .inl (Z 2, 4, .inl (M.2.2.1 21))), (A 22, .inl (Z 0, 4, .inl (M.2.2.1 22)))] H := hP
            have hD : va_D AA [(A 20, .inr (10, [.int (M.1 100), .ref (A 21), .ref (A 22), .ref (A 23), .ref (A 24), .ref (A 25), .int (M.1 101), .ref (A 26), .ref (A 27), .ref (A 28), .int (M.1 102), .long (M.2.1 100), .int (M.1 103), .int (M.1 104), .int (M.1 105), .int (M.1 106), .int (M.1 107), .int (M.1 108), .long (M.2.1 101), .long (M.2.1 102), .long (M.2.1 103), .int (M.1 109), .int (M.1 110), .int (M.1 111), .int (M.1 112), .int (M.1 113), .long (M.2.1 104), .long (M.2.1 105), .long (M.2.1 106), .int (M.1 114), .int (M.1 115), .int (M.1 116), .int j9, .int (M.1 118), .int (M.1 119), .int (M.1 120), .int (M.1 121), .int (M.1 122), .int (M.1 123), .int (M.1 124), .long (M.2.1 107), .int (M.1 125), .ref (A 29), .ref (A 30), .ref (A 31)])), (A 21, .inl (Z 2, 4, .inl (M.2.2.1 21))), (A 22, .inl (Z 0, 4, .inl (M.2.2.1 22)))] := hD
            refine lv_aload_n hx hb d_R_read_68 rfl (lv_at hl 2 rfl) ?_
            refine va_get (D := (dC, dI)) (ci := 10) (v := .int (M.1 114)) (C := "CentrifugeUnitModel") (T := xF10) (N := 45) hx hb htt xin10 hown hK hP 0 rfl rfl 29 (by decide) (htt _ tw_808) (fun _ h9 => h9) rfl d_R_read_69 ?_
            refine lv_if_eq (tgt := 76) hx hb d_R_read_72 rfl (fun h11 => ?_) (fun h11 => ?_)
            · refine lv_aload_n hx hb d_R_read_76 rfl (lv_at hl 2 rfl) ?_
              refine lv_iconst (v := 1) hx hb d_R_read_77 (by decide) ?_
              refine va_put (D := (dC, dI)) (ci := 10) (v := .int 1) (ty := .boolean) (C := "CentrifugeUnitModel") (T := xF10) (N := 45) hx hb htt xin10 xT10 xTo10 xNm10 hown hK hP hD hS 0 rfl rfl 29 (by decide) (htt _ tw_808) (fun _ h9 => h9) rfl (by decide +kernel) rfl rfl (Nat.le_of_ble_eq_true rfl) d_R_read_78 (fun H locs hP hD hS => ?_)
              have hP : va_P (dC, dI) xcl [(A 20, .inr (10, [.int (M.1 100), .ref (A 21), .ref (A 22), .ref (A 23), .ref (A 24), .ref (A 25), .int (M.1 101), .ref (A 26), .ref (A 27), .ref (A 28), .int (M.1 102), .long (M.2.1 100), .int (M.1 103), .int (M.1 104), .int (M.1 105), .int (M.1 106), .int (M.1 107), .int (M.1 108), .long (M.2.1 101), .long (M.2.1 102), .long (M.2.1 103), .int (M.1 109), .int (M.1 110), .int (M.1 111), .int (M.1 112), .int (M.1 113), .long (M.2.1 104), .long (M.2.1 105), .long (M.2.1 106), .int 1, .int (M.1 115), .int (M.1 116), .int j9, .int (M.1 118), .int (M.1 119), .int (M.1 120), .int (M.1 121), .int (M.1 122), .int (M.1 123), .int (M.1 124), .long (M.2.1 107), .int (M.1 125), .ref (A 29), .ref (A 30), .ref (A 31)])), (A 21, .inl (Z 2, 4, .inl (M.2.2.1 21))), (A 22, .inl (Z 0, 4, .inl (M.2.2.1 22)))] H := hP
              have hD : va_D AA [(A 20, .inr (10, [.int (M.1 100), .ref (A 21), .ref (A 22), .ref (A 23), .ref (A 24), .ref (A 25), .int (M.1 101), .ref (A 26), .ref (A 27), .ref (A 28), .int (M.1 102), .long (M.2.1 100), .int (M.1 103), .int (M.1 104), .int (M.1 105), .int (M.1 106), .int (M.1 107), .int (M.1 108), .long (M.2.1 101), .long (M.2.1 102), .long (M.2.1 103), .int (M.1 109), .int (M.1 110), .int (M.1 111), .int (M.1 112), .int (M.1 113), .long (M.2.1 104), .long (M.2.1 105), .long (M.2.1 106), .int 1, .int (M.1 115), .int (M.1 116), .int j9, .int (M.1 118), .int (M.1 119), .int (M.1 120), .int (M.1 121), .int (M.1 122), .int (M.1 123), .int (M.1 124), .long (M.2.1 107), .int (M.1 125), .ref (A 29), .ref (A 30), .ref (A 31)])), (A 21, .inl (Z 2, 4, .inl (M.2.2.1 21))), (A 22, .inl (Z 0, 4, .inl (M.2.2.1 22)))] := hD
              refine lv_aload_n hx hb d_R_read_81 rfl (lv_at hl 2 rfl) ?_
              refine lv_iload_n hx hb d_R_read_82 rfl (lv_at hl 3 rfl) ?_
              refine va_put (D := (dC, dI)) (ci := 10) (v := .int a1) (ty := .int) (C := "CentrifugeUnitModel") (T := xF10) (N := 45) hx hb htt xin10 xT10 xTo10 xNm10 hown hK hP hD hS 0 rfl rfl 30 (by decide) (htt _ tw_809) (fun _ h9 => h9) rfl (by decide +kernel) rfl rfl (Nat.le_of_ble_eq_true rfl) d_R_read_83 (fun H locs hP hD hS => ?_)
              have hP : va_P (dC, dI) xcl [(A 20, .inr (10, [.int (M.1 100), .ref (A 21), .ref (A 22), .ref (A 23), .ref (A 24), .ref (A 25), .int (M.1 101), .ref (A 26), .ref (A 27), .ref (A 28), .int (M.1 102), .long (M.2.1 100), .int (M.1 103), .int (M.1 104), .int (M.1 105), .int (M.1 106), .int (M.1 107), .int (M.1 108), .long (M.2.1 101), .long (M.2.1 102), .long (M.2.1 103), .int (M.1 109), .int (M.1 110), .int (M.1 111), .int (M.1 112), .int (M.1 113), .long (M.2.1 104), .long (M.2.1 105), .long (M.2.1 106), .int 1, .int a1, .int (M.1 116), .int j9, .int (M.1 118), .int (M.1 119), .int (M.1 120), .int (M.1 121), .int (M.1 122), .int (M.1 123), .int (M.1 124), .long (M.2.1 107), .int (M.1 125), .ref (A 29), .ref (A 30), .ref (A 31)])), (A 21, .inl (Z 2, 4, .inl (M.2.2.1 21))), (A 22, .inl (Z 0, 4, .inl (M.2.2.1 22)))] H := hP
              have hD : va_D AA [(A 20, .inr (10, [.int (M.1 100), .ref (A 21), .ref (A 22), .ref (A 23), .ref (A 24), .ref (A 25), .int (M.1 101), .ref (A 26), .ref (A 27), .ref (A 28), .int (M.1 102), .long (M.2.1 100), .int (M.1 103), .int (M.1 104), .int (M.1 105), .int (M.1 106), .int (M.1 107), .int (M.1 108), .long (M.2.1 101), .long (M.2.1 102), .long (M.2.1 103), .int (M.1 109), .int (M.1 110), .int (M.1 111), .int (M.1 112), .int (M.1 113), .long (M.2.1 104), .long (M.2.1 105), .long (M.2.1 106), .int 1, .int a1, .int (M.1 116), .int j9, .int (M.1 118), .int (M.1 119), .int (M.1 120), .int (M.1 121), .int (M.1 122), .int (M.1 123), .int (M.1 124), .long (M.2.1 107), .int (M.1 125), .ref (A 29), .ref (A 30), .ref (A 31)])), (A 21, .inl (Z 2, 4, .inl (M.2.2.1 21))), (A 22, .inl (Z 0, 4, .inl (M.2.2.1 22)))] := hD
              refine lv_aload_n hx hb d_R_read_86 rfl (lv_at hl 2 rfl) ?_
              refine lv_iload_n hx hb d_R_read_87 rfl (lv_at hl 1 rfl) ?_
              refine va_put (D := (dC, dI)) (ci := 10) (v := .int j7) (ty := .int) (C := "CentrifugeUnitModel") (T := xF10) (N := 45) hx hb htt xin10 xT10 xTo10 xNm10 hown hK hP hD hS 0 rfl rfl 31 (by decide) (htt _ tw_810) (fun _ h9 => h9) rfl (by decide +kernel) rfl rfl (Nat.le_of_ble_eq_true rfl) d_R_read_88 (fun H locs hP hD hS => ?_)
              have hP : va_P (dC, dI) xcl [(A 20, .inr (10, [.int (M.1 100), .ref (A 21), .ref (A 22), .ref (A 23), .ref (A 24), .ref (A 25), .int (M.1 101), .ref (A 26), .ref (A 27), .ref (A 28), .int (M.1 102), .long (M.2.1 100), .int (M.1 103), .int (M.1 104), .int (M.1 105), .int (M.1 106), .int (M.1 107), .int (M.1 108), .long (M.2.1 101), .long (M.2.1 102), .long (M.2.1 103), .int (M.1 109), .int (M.1 110), .int (M.1 111), .int (M.1 112), .int (M.1 113), .long (M.2.1 104), .long (M.2.1 105), .long (M.2.1 106), .int 1, .int a1, .int j7, .int j9, .int (M.1 118), .int (M.1 119), .int (M.1 120), .int (M.1 121), .int (M.1 122), .int (M.1 123), .int (M.1 124), .long (M.2.1 107), .int (M.1 125), .ref (A 29), .ref (A 30), .ref (A 31)])), (A 21, .inl (Z 2, 4, .inl (M.2.2.1 21))), (A 22, .inl (Z 0, 4, .inl (M.2.2.1 22)))] H := hP
              have hD : va_D AA [(A 20, .inr (10, [.int (M.1 100), .ref (A 21), .ref (A 22), .ref (A 23), .ref (A 24), .ref (A 25), .int (M.1 101), .ref (A 26), .ref (A 27), .ref (A 28), .int (M.1 102), .long (M.2.1 100), .int (M.1 103), .int (M.1 104), .int (M.1 105), .int (M.1 106), .int (M.1 107), .int (M.1 108), .long (M.2.1 101), .long (M.2.1 102), .long (M.2.1 103), .int (M.1 109), .int (M.1 110), .int (M.1 111), .int (M.1 112), .int (M.1 113), .long (M.2.1 104), .long (M.2.1 105), .long (M.2.1 106), .int 1, .int a1, .int j7, .int j9, .int (M.1 118), .int (M.1 119), .int (M.1 120), .int (M.1 121), .int (M.1 122), .int (M.1 123), .int (M.1 124), .long (M.2.1 107), .int (M.1 125), .ref (A 29), .ref (A 30), .ref (A 31)])), (A 21, .inl (Z 2, 4, .inl (M.2.2.1 21))), (A 22, .inl (Z 0, 4, .inl (M.2.2.1 22)))] := hD
              have hP9 := hP.sub (ws' := [(A 20, xc20 Z A (ap_R_read M (j9, 1, a1, j7))), (A 21, xc21 Z A (ap_R_read M (j9, 1, a1, j7))), (A 22, xc22 Z A (ap_R_read M (j9, 1, a1, j7)))]) [0, 1, 2] rfl
              have hD9 := hD.sub (ws' := [(A 20, xc20 Z A (ap_R_read M (j9, 1, a1, j7))), (A 21, xc21 Z A (ap_R_read M (j9, 1, a1, j7))), (A 22, xc22 Z A (ap_R_read M (j9, 1, a1, j7)))]) [0, 1, 2] (by decide) rfl
              exact W.vret hx hb hr (fun t ht hW => ⟨⟨(j9, 1, a1, j7), rfl, (by rw [F_R_read, ← hj1, F_R_read_k2, ← hj3, F_R_read_k4, ← hj5, F_R_read_k6, ← hj7, F_R_read_k8, ← hj9, F_R_read_k10, if_pos h11]), xE_at hP9 hK hD9 ht hW⟩, hS.F ht⟩) hS.2.2 d_R_read_91
            · have hP9 := hP.sub (ws' := [(A 20, xc20 Z A (ap_R_read M (j9, (M.1 114), (M.1 115), (M.1 116)))), (A 21, xc21 Z A (ap_R_read M (j9, (M.1 114), (M.1 115), (M.1 116)))), (A 22, xc22 Z A (ap_R_read M (j9, (M.1 114), (M.1 115), (M.1 116))))]) [0, 1, 2] rfl
              have hD9 := hD.sub (ws' := [(A 20, xc20 Z A (ap_R_read M (j9, (M.1 114), (M.1 115), (M.1 116)))), (A 21, xc21 Z A (ap_R_read M (j9, (M.1 114), (M.1 115), (M.1 116)))), (A 22, xc22 Z A (ap_R_read M (j9, (M.1 114), (M.1 115), (M.1 116))))]) [0, 1, 2] (by decide) rfl
              exact W.vret hx hb hr (fun t ht hW => ⟨⟨(j9, (M.1 114), (M.1 115), (M.1 116)), rfl, (by rw [F_R_read, ← hj1, F_R_read_k2, ← hj3, F_R_read_k4, ← hj5, F_R_read_k6, ← hj7, F_R_read_k8, ← hj9, F_R_read_k10, if_neg h11]), xE_at hP9 hK hD9 ht hW⟩, hS.F ht⟩) hS.2.2 d_R_read_75
abbrev bc_R_watch : ByteArray := prog_12_method_21_code
def y_R_watch : MethodName := ⟨"CentrifugeUnitModel", "watch", "()V"⟩
theorem d_R_watch_0 : decode bc_R_watch 0 = .ok (.aload_n 0, 1) := by decide +kernel
theorem d_R_watch_1 : decode bc_R_watch 1 = .ok (.getfield 49, 3) := by decide +kernel
theorem d_R_watch_4 : decode bc_R_watch 4 = .ok (.ifCond .ge 9, 3) := by decide +kernel
theorem d_R_watch_7 : decode bc_R_watch 7 = .ok (.ldc2_w 214, 3) := by decide +kernel
theorem d_R_watch_10 : decode bc_R_watch 10 = .ok (.goto 13, 3) := by decide +kernel
theorem d_R_watch_13 : decode bc_R_watch 13 = .ok (.aload_n 0, 1) := by decide +kernel
theorem d_R_watch_14 : decode bc_R_watch 14 = .ok (.getfield 20, 3) := by decide +kernel
theorem d_R_watch_17 : decode bc_R_watch 17 = .ok (.aload_n 0, 1) := by decide +kernel
theorem d_R_watch_18 : decode bc_R_watch 18 = .ok (.getfield 49, 3) := by decide +kernel
theorem d_R_watch_21 : decode bc_R_watch 21 = .ok (.iaload, 1) := by decide +kernel
theorem d_R_watch_22 : decode bc_R_watch 22 = .ok (.i2l, 1) := by decide +kernel
theorem d_R_watch_23 : decode bc_R_watch 23 = .ok (.lstore_n 1, 1) := by decide +kernel
theorem d_R_watch_24 : decode bc_R_watch 24 = .ok (.aload_n 0, 1) := by decide +kernel
theorem d_R_watch_25 : decode bc_R_watch 25 = .ok (.invokevirtual 123, 3) := by decide +kernel
theorem d_R_watch_28 : decode bc_R_watch 28 = .ok (.ifCond .ne 7, 3) := by decide +kernel
theorem d_R_watch_31 : decode bc_R_watch 31 = .ok (.iconst 1, 1) := by decide +kernel
theorem d_R_watch_32 : decode bc_R_watch 32 = .ok (.goto 53, 3) := by decide +kernel
theorem d_R_watch_35 : decode bc_R_watch 35 = .ok (.aload_n 0, 1) := by decide +kernel
theorem d_R_watch_36 : decode bc_R_watch 36 = .ok (.getfield 202, 3) := by decide +kernel
theorem d_R_watch_39 : decode bc_R_watch 39 = .ok (.ifCond .eq 7, 3) := by decide +kernel
theorem d_R_watch_42 : decode bc_R_watch 42 = .ok (.iconst 2, 1) := by decide +kernel
theorem d_R_watch_43 : decode bc_R_watch 43 = .ok (.goto 42, 3) := by decide +kernel
theorem d_R_watch_46 : decode bc_R_watch 46 = .ok (.aload_n 0, 1) := by decide +kernel
theorem d_R_watch_47 : decode bc_R_watch 47 = .ok (.getfield 195, 3) := by decide +kernel
theorem d_R_watch_50 : decode bc_R_watch 50 = .ok (.lload_n 1, 1) := by decide +kernel
theorem d_R_watch_51 : decode bc_R_watch 51 = .ok (.lcmp, 1) := by decide +kernel
theorem d_R_watch_52 : decode bc_R_watch 52 = .ok (.ifCond .le 7, 3) := by decide +kernel
theorem d_R_watch_55 : decode bc_R_watch 55 = .ok (.iconst 3, 1) := by decide +kernel
theorem d_R_watch_56 : decode bc_R_watch 56 = .ok (.goto 29, 3) := by decide +kernel
theorem d_R_watch_59 : decode bc_R_watch 59 = .ok (.aload_n 0, 1) := by decide +kernel
theorem d_R_watch_60 : decode bc_R_watch 60 = .ok (.getfield 165, 3) := by decide +kernel
theorem d_R_watch_63 : decode bc_R_watch 63 = .ok (.iconst 5, 1) := by decide +kernel
theorem d_R_watch_64 : decode bc_R_watch 64 = .ok (.if_icmp .lt 7, 3) := by decide +kernel
theorem d_R_watch_67 : decode bc_R_watch 67 = .ok (.iconst 4, 1) := by decide +kernel
theorem d_R_watch_68 : decode bc_R_watch 68 = .ok (.goto 17, 3) := by decide +kernel
theorem d_R_watch_71 : decode bc_R_watch 71 = .ok (.aload_n 0, 1) := by decide +kernel
theorem d_R_watch_72 : decode bc_R_watch 72 = .ok (.getfield 168, 3) := by decide +kernel
theorem d_R_watch_75 : decode bc_R_watch 75 = .ok (.bipush 10, 2) := by decide +kernel
theorem d_R_watch_77 : decode bc_R_watch 77 = .ok (.if_icmp .lt 7, 3) := by decide +kernel
theorem d_R_watch_80 : decode bc_R_watch 80 = .ok (.iconst 5, 1) := by decide +kernel
theorem d_R_watch_81 : decode bc_R_watch 81 = .ok (.goto 4, 3) := by decide +kernel
theorem d_R_watch_84 : decode bc_R_watch 84 = .ok (.iconst 0, 1) := by decide +kernel
theorem d_R_watch_85 : decode bc_R_watch 85 = .ok (.istore_n 3, 1) := by decide +kernel
theorem d_R_watch_86 : decode bc_R_watch 86 = .ok (.iload_n 3, 1) := by decide +kernel
theorem d_R_watch_87 : decode bc_R_watch 87 = .ok (.ifCond .ne 4, 3) := by decide +kernel
theorem d_R_watch_90 : decode bc_R_watch 90 = .ok (.return_, 1) := by decide +kernel
theorem d_R_watch_91 : decode bc_R_watch 91 = .ok (.aload_n 0, 1) := by decide +kernel
theorem d_R_watch_92 : decode bc_R_watch 92 = .ok (.iconst 3, 1) := by decide +kernel
theorem d_R_watch_93 : decode bc_R_watch 93 = .ok (.putfield 95, 3) := by decide +kernel
theorem d_R_watch_96 : decode bc_R_watch 96 = .ok (.aload_n 0, 1) := by decide +kernel
theorem d_R_watch_97 : decode bc_R_watch 97 = .ok (.iload_n 3, 1) := by decide +kernel
theorem d_R_watch_98 : decode bc_R_watch 98 = .ok (.putfield 127, 3) := by decide +kernel
theorem d_R_watch_101 : decode bc_R_watch 101 = .ok (.return_, 1) := by decide +kernel
abbrev ap_R_watch (M : XM) (u : (Int32 × Int32)) : XM := ((va_up (va_up M.1 110 (u.1)) 111 (u.2)), M.2)
def F_R_watch_k5 (M : XM) (j1 : Int64) (z3 : Int32) (j4 : Int32) : (Int32 × Int32) := (if j4 = 0 then ((M.1 110), (M.1 111)) else (3, j4))
def F_R_watch_j4 (M : XM) (j1 : Int64) (z3 : Int32) : Int32 := (if z3 = 0 then 1 else (if (M.1 117) = 0 then (if (lg_cmp (M.2.1 103) j1) ≤ 0 then (if (M.1 119) < 5 then (if (M.1 120) < 10 then 0 else 5) else 4) else 3) else 2))
def F_R_watch_k3 (M : XM) (j1 : Int64) (z3 : Int32) : (Int32 × Int32) := (F_R_watch_k5 M j1 z3 (F_R_watch_j4 M j1 z3))
def F_R_watch_k2 (M : XM) (j1 : Int64) : (Int32 × Int32) := (F_R_watch_k3 M j1 (F_R_isLocked M))
def F_R_watch_j1 (M : XM) : Int64 := (if 0 ≤ (M.1 116) then (((M.2.2.1 24) ((M.1 116)).toNatClampNeg)).toInt64 else 3000)
def F_R_watch (M : XM) : (Int32 × Int32) := (F_R_watch_k2 M (F_R_watch_j1 M))
set_option maxHeartbeats 4000000 in
set_option maxRecDepth 100000 in
theorem c_R_watch (l : Launch) (dC : Nat → ClassId) (dI : Nat → Nat → Nat) (Z : Nat → ClassId) (A : Nat → Nat) (sz : Nat) (M : XM) (hro : (M.1 116) < 4) : Met l y_R_watch (.code y_R_watch bc_R_watch 4 none :: xw) ({ frames := 1, cells := 0, slots := 0, locals := 20 }) (va_Pc [.ref (A 20)] (xB (dC, dI) xcl (xty Z) sz [(A 20, xc20 Z A M), (A 24, xc24 Z A M)])) (va_Qv (fun u : (Int32 × Int32) => u = F_R_watch M) (fun u => xE (dC, dI) xcl (xty Z) (va_A [(A 20, xc20 Z A M), (A 24, xc24 Z A M)] sz) [(A 20, xc20 Z A (ap_R_watch M u)), (A 24, xc24 Z A (ap_R_watch M u))]) (va_A [(A 20, xc20 Z A M), (A 24, xc24 Z A M)] sz)) 0 0 (va_A [(A 20, xc20 Z A M), (A 24, xc24 Z A M)] sz) := by
  refine Met.ofW (cc := bc_R_watch) (maxL := 4) (ret := none) (by decide) rfl ?_
  intro p e s m args below meth c s₁ B hml hv
  obtain ⟨rfl, hsz, hP, hK, hD0, hq⟩ := hv
  have hx := B.exec
  have hb := B.bytes
  have hr := B.returns
  have hts := atoms_spec (ws := (.code y_R_watch bc_R_watch 4 none :: xw)) B.pre
  have htt : ∀ w ∈ xw, w.before _ s = true := fun w h => hts w (List.mem_cons_of_mem _ h)
  have hown : s.vm.findClass "CentrifugeUnitModel" = some m.cls := findClass_of_methodNamed B.named
  have hlocks := B.notSynchronized
  subst hsz
  have hD := hD0.self (sz := s.heap.size)
  generalize hAe : va_A [(A 20, xc20 Z A M), (A 24, xc24 Z A M)] s.heap.size = AA at hD ⊢
  have hA : ∀ q : Nat, s.heap.size ≤ q → AA q := fun q h => by rw [← hAe]; exact Or.inr h
  have hS : va_S AA s.heap s.heap [] := va_S.rf
  have hP : va_P (dC, dI) xcl [(A 20, .inr (10, [.int (M.1 100), .ref (A 21), .ref (A 22), .ref (A 23), .ref (A 24), .ref (A 25), .int (M.1 101), .ref (A 26), .ref (A 27), .ref (A 28), .int (M.1 102), .long (M.2.1 100), .int (M.1 103), .int (M.1 104), .int (M.1 105), .int (M.1 106), .int (M.1 107), .int (M.1 108), .long (M.2.1 101), .long (M.2.1 102), .long (M.2.1 103), .int (M.1 109), .int (M.1 110), .int (M.1 111), .int (M.1 112), .int (M.1 113), .long (M.2.1 104), .long (M.2.1 105), .long (M.2.1 106), .int (M.1 114), .int (M.1 115), .int (M.1 116), .int (M.1 117), .int (M.1 118), .int (M.1 119), .int (M.1 120), .int (M.1 121), .int (M.1 122), .int (M.1 123), .int (M.1 124), .long (M.2.1 107), .int (M.1 125), .ref (A 29), .ref (A 30), .ref (A 31)])), (A 24, .inl (Z 0, 4, .inl (M.2.2.1 24)))] s.heap := hP
  have hD : va_D AA [(A 20, .inr (10, [.int (M.1 100), .ref (A 21), .ref (A 22), .ref (A 23), .ref (A 24), .ref (A 25), .int (M.1 101), .ref (A 26), .ref (A 27), .ref (A 28), .int (M.1 102), .long (M.2.1 100), .int (M.1 103), .int (M.1 104), .int (M.1 105), .int (M.1 106), .int (M.1 107), .int (M.1 108), .long (M.2.1 101), .long (M.2.1 102), .long (M.2.1 103), .int (M.1 109), .int (M.1 110), .int (M.1 111), .int (M.1 112), .int (M.1 113), .long (M.2.1 104), .long (M.2.1 105), .long (M.2.1 106), .int (M.1 114), .int (M.1 115), .int (M.1 116), .int (M.1 117), .int (M.1 118), .int (M.1 119), .int (M.1 120), .int (M.1 121), .int (M.1 122), .int (M.1 123), .int (M.1 124), .long (M.2.1 107), .int (M.1 125), .ref (A 29), .ref (A 30), .ref (A 31)])), (A 24, .inl (Z 0, 4, .inl (M.2.2.1 24)))] := hD
  have hl := lv_entry ([.ref (A 20)]) (n := 4) (Nat.le_of_ble_eq_true rfl)
  rw [lg_entry_eq]
  generalize (lg_sl ([.ref (A 20)]) ++ List.replicate (4 - (lg_sl ([.ref (A 20)])).length) Slot.unset).toArray = ls at hl ⊢
  have hl : lv_has ls 4 [(0, .ref (A 20))] := hl
  refine lv_aload_n hx hb d_R_watch_0 rfl (lv_at hl 0 rfl) ?_
  refine va_get (D := (dC, dI)) (ci := 10) (v := .int (M.1 116)) (C := "CentrifugeUnitModel") (T := xF10) (N := 45) hx hb htt xin10 hown hK hP 0 rfl rfl 31 (by decide) (htt _ tw_810) (fun _ h9 => h9) rfl d_R_watch_1 ?_
  refine xj_p 4 23 (fun q9 : Int64 => [(0, .ref (A 20))]) (fun q9 : Int64 => [.long q9]) (fun q9 : Int64 => q9 = F_R_watch_j1 M) (fun hJ2 => ?_) (fun ls j1 hl hj1 => ?_)
  · refine lv_if_ge (tgt := 13) hx hb d_R_watch_4 rfl (fun h12 => ?_) (fun h12 => ?_)
    · refine lv_aload_n hx hb d_R_watch_13 rfl (lv_at hl 0 rfl) ?_
      refine va_get (D := (dC, dI)) (ci := 10) (v := .ref (A 24)) (C := "CentrifugeUnitModel") (T := xF10) (N := 45) hx hb htt xin10 hown hK hP 0 rfl rfl 4 (by decide) (htt _ tw_783) (fun _ h9 => h9) rfl d_R_watch_14 ?_
      refine lv_aload_n hx hb d_R_watch_17 rfl (lv_at hl 0 rfl) ?_
      refine va_get (D := (dC, dI)) (ci := 10) (v := .int (M.1 116)) (C := "CentrifugeUnitModel") (T := xF10) (N := 45) hx hb htt xin10 hown hK hP 0 rfl rfl 31 (by decide) (htt _ tw_810) (fun _ h9 => h9) rfl d_R_watch_18 ?_
      refine va_iald (D := (dC, dI)) hx hb hK hP 1 0 rfl rfl (xge4 h12 hro) d_R_watch_21 ?_
      refine lv_i2l (v := (((M.2.2.1 24) ((M.1 116)).toNatClampNeg)).toInt64) hx hb d_R_watch_22 rfl ?_
      exact hJ2 _ (((M.2.2.1 24) ((M.1 116)).toNatClampNeg)).toInt64 (lv_sub hl [0] rfl) (by rw [F_R_watch_j1, if_pos h12])
    · refine lv_ldc2 (v := 3000) hx hb hown (htt _ tw_1025) d_R_watch_7 ?_
      refine lv_goto (tgt := 23) hx hb d_R_watch_10 rfl ?_
      exact hJ2 _ 3000 (lv_sub hl [0] rfl) (by rw [F_R_watch_j1, if_neg h12])
  · refine lv_lstore_n (lv' := [(1, .long j1), (0, .ref (A 20))]) hx hb d_R_watch_23 rfl hl (by decide) rfl (fun ls hl => ?_)
    refine lv_aload_n hx hb d_R_watch_24 rfl (lv_at hl 1 rfl) ?_
    have hPc := hP.sub (ws' := [(A 20, xc20 Z A M)]) [0] rfl
    have hDc := hD.sub (ws' := [(A 20, xc20 Z A M)]) [0] (by decide) rfl
    refine xk_p (va_runV (As := []) (rest := []) ⟨hx, hb, hml, hown, hts⟩ (c_R_isLocked l dC dI Z A _ M) (cwV 0 hts (xw_V _ tw_960 tw_962 tp_13 tw_12 tw_963) rfl rfl rfl (by decide +kernel) ⟨Nat.le_of_ble_eq_true rfl, Nat.le_of_ble_eq_true rfl⟩) ⟨xB_blind, va_recv (q0 := 0) (ci := 10) hK hP rfl rfl, fun U hU hW => ⟨rfl, xB_at hPc hK hDc hq U hU hW⟩⟩ rfl rfl hl.1 rfl (lv_room (Nat.le_of_ble_eq_true rfl)) d_R_watch_25 ⟨Nat.le_of_ble_eq_true rfl, Nat.le_of_ble_eq_true rfl⟩) ?_
    refine lv_topi (fun z3 hz3 => ?_)
    refine xj_p 4 85 (fun q9 : Int32 => [(1, .long j1), (0, .ref (A 20))]) (fun q9 : Int32 => [.int q9]) (fun q9 : Int32 => q9 = F_R_watch_j4 M j1 z3) (fun hJ5 => ?_) (fun ls j4 hl hj4 => ?_)
    · refine lv_if_ne (tgt := 35) hx hb d_R_watch_28 rfl (fun h7 => ?_) (fun h7 => ?_)
      · refine lv_aload_n hx hb d_R_watch_35 rfl (lv_at hl 1 rfl) ?_
        refine va_get (D := (dC, dI)) (ci := 10) (v := .int (M.1 117)) (C := "CentrifugeUnitModel") (T := xF10) (N := 45) hx hb htt xin10 hown hK hP 0 rfl rfl 32 (by decide) (htt _ tw_811) (fun _ h9 => h9) rfl d_R_watch_36 ?_
        refine lv_if_eq (tgt := 46) hx hb d_R_watch_39 rfl (fun h8 => ?_) (fun h8 => ?_)
        · refine lv_aload_n hx hb d_R_watch_46 rfl (lv_at hl 1 rfl) ?_
          refine va_get (D := (dC, dI)) (ci := 10) (v := .long (M.2.1 103)) (C := "CentrifugeUnitModel") (T := xF10) (N := 45) hx hb htt xin10 hown hK hP 0 rfl rfl 20 (by decide) (htt _ tw_799) (fun _ h9 => h9) rfl d_R_watch_47 ?_
          refine lv_lload_n hx hb d_R_watch_50 rfl (lv_at hl 0 rfl) ?_
          refine W.lcmp hx hb d_R_watch_51 ?_
          refine lv_if_le (tgt := 59) hx hb d_R_watch_52 rfl (fun h9 => ?_) (fun h9 => ?_)
          · refine lv_aload_n hx hb d_R_watch_59 rfl (lv_at hl 1 rfl) ?_
            refine va_get (D := (dC, dI)) (ci := 10) (v := .int (M.1 119)) (C := "CentrifugeUnitModel") (T := xF10) (N := 45) hx hb htt xin10 hown hK hP 0 rfl rfl 34 (by decide) (htt _ tw_813) (fun _ h9 => h9) rfl d_R_watch_60 ?_
            refine lv_iconst (v := 5) hx hb d_R_watch_63 (by decide) ?_
            refine lv_icmp_lt (tgt := 71) hx hb d_R_watch_64 rfl (fun h10 => ?_) (fun h10 => ?_)
            · refine lv_aload_n hx hb d_R_watch_71 rfl (lv_at hl 1 rfl) ?_
              refine va_get (D := (dC, dI)) (ci := 10) (v := .int (M.1 120)) (C := "CentrifugeUnitModel") (T := xF10) (N := 45) hx hb htt xin10 hown hK hP 0 rfl rfl 35 (by decide) (htt _ tw_814) (fun _ h9 => h9) rfl d_R_watch_72 ?_
              refine lv_bipush (v := 10) hx hb d_R_watch_75 (by decide) ?_
              refine lv_icmp_lt (tgt := 84) hx hb d_R_watch_77 rfl (fun h11 => ?_) (fun h11 => ?_)
              · refine lv_iconst (v := 0) hx hb d_R_watch_84 (by decide) ?_
                exact hJ5 _ 0 (lv_sub hl [0, 1] rfl) (by rw [F_R_watch_j4, if_neg h7, if_pos h8, if_pos h9, if_pos h10, if_pos h11])
              · refine lv_iconst (v := 5) hx hb d_R_watch_80 (by decide) ?_
                refine lv_goto (tgt := 85) hx hb d_R_watch_81 rfl ?_
                exact hJ5 _ 5 (lv_sub hl [0, 1] rfl) (by rw [F_R_watch_j4, if_neg h7, if_pos h8, if_pos h9, if_pos h10, if_neg h11])
            · refine lv_iconst (v := 4) hx hb d_R_watch_67 (by decide) ?_
              refine lv_goto (tgt := 85) hx hb d_R_watch_68 rfl ?_
              exact hJ5 _ 4 (lv_sub hl [0, 1] rfl) (by rw [F_R_watch_j4, if_neg h7, if_pos h8, if_pos h9, if_neg h10])
          · refine lv_iconst (v := 3) hx hb d_R_watch_55 (by decide) ?_
            refine lv_goto (tgt := 85) hx hb d_R_watch_56 rfl ?_
            exact hJ5 _ 3 (lv_sub hl [0, 1] rfl) (by rw [F_R_watch_j4, if_neg h7, if_pos h8, if_neg h9])
        · refine lv_iconst (v := 2) hx hb d_R_watch_42 (by decide) ?_
          refine lv_goto (tgt := 85) hx hb d_R_watch_43 rfl ?_
          exact hJ5 _ 2 (lv_sub hl [0, 1] rfl) (by rw [F_R_watch_j4, if_neg h7, if_neg h8])
      · refine lv_iconst (v := 1) hx hb d_R_watch_31 (by decide) ?_
        refine lv_goto (tgt := 85) hx hb d_R_watch_32 rfl ?_
        exact hJ5 _ 1 (lv_sub hl [0, 1] rfl) (by rw [F_R_watch_j4, if_pos h7])
    · refine lv_istore_n (lv' := [(3, .int j4), (1, .long j1), (0, .ref (A 20))]) hx hb d_R_watch_85 rfl hl (by decide) rfl (fun ls hl => ?_)
      refine lv_iload_n hx hb d_R_watch_86 rfl (lv_at hl 0 rfl) ?_
      refine lv_if_ne (tgt := 91) hx hb d_R_watch_87 rfl (fun h6 => ?_) (fun h6 => ?_)
      · refine lv_aload_n hx hb d_R_watch_91 rfl (lv_at hl 2 rfl) ?_
        refine lv_iconst (v := 3) hx hb d_R_watch_92 (by decide) ?_
        refine va_put (D := (dC, dI)) (ci := 10) (v := .int 3) (ty := .int) (C := "CentrifugeUnitModel") (T := xF10) (N := 45) hx hb htt xin10 xT10 xTo10 xNm10 hown hK hP hD hS 0 rfl rfl 22 (by decide) (htt _ tw_801) (fun _ h9 => h9) rfl (by decide +kernel) rfl rfl (Nat.le_of_ble_eq_true rfl) d_R_watch_93 (fun H locs hP hD hS => ?_)
        have hP : va_P (dC, dI) xcl [(A 20, .inr (10, [.int (M.1 100), .ref (A 21), .ref (A 22), .ref (A 23), .ref (A 24), .ref (A 25), .int (M.1 101), .ref (A 26), .ref (A 27), .ref (A 28), .int (M.1 102), .long (M.2.1 100), .int (M.1 103), .int (M.1 104), .int (M.1 105), .int (M.1 106), .int (M.1 107), .int (M.1 108), .long (M.2.1 101), .long (M.2.1 102), .long (M.2.1 103), .int (M.1 109), .int 3, .int (M.1 111), .int (M.1 112), .int (M.1 113), .long (M.2.1 104), .long (M.2.1 105), .long (M.2.1 106), .int (M.1 114), .int (M.1 115), .int (M.1 116), .int (M.1 117), .int (M.1 118), .int (M.1 119), .int (M.1 120), .int (M.1 121), .int (M.1 122), .int (M.1 123), .int (M.1 124), .long (M.2.1 107), .int (M.1 125), .ref (A 29), .ref (A 30), .ref (A 31)])), (A 24, .inl (Z 0, 4, .inl (M.2.2.1 24)))] H := hP
        have hD : va_D AA [(A 20, .inr (10, [.int (M.1 100), .ref (A 21), .ref (A 22), .ref (A 23), .ref (A 24), .ref (A 25), .int (M.1 101), .ref (A 26), .ref (A 27), .ref (A 28), .int (M.1 102), .long (M.2.1 100), .int (M.1 103), .int (M.1 104), .int (M.1 105), .int (M.1 106), .int (M.1 107), .int (M.1 108), .long (M.2.1 101), .long (M.2.1 102), .long (M.2.1 103), .int (M.1 109), .int 3, .int (M.1 111), .int (M.1 112), .int (M.1 113), .long (M.2.1 104), .long (M.2.1 105), .long (M.2.1 106), .int (M.1 114), .int (M.1 115), .int (M.1 116), .int (M.1 117), .int (M.1 118), .int (M.1 119), .int (M.1 120), .int (M.1 121), .int (M.1 122), .int (M.1 123), .int (M.1 124), .long (M.2.1 107), .int (M.1 125), .ref (A 29), .ref (A 30), .ref (A 31)])), (A 24, .inl (Z 0, 4, .inl (M.2.2.1 24)))] := hD
        refine lv_aload_n hx hb d_R_watch_96 rfl (lv_at hl 2 rfl) ?_
        refine lv_iload_n hx hb d_R_watch_97 rfl (lv_at hl 0 rfl) ?_
        refine va_put (D := (dC, dI)) (ci := 10) (v := .int j4) (ty := .int) (C := "CentrifugeUnitModel") (T := xF10) (N := 45) hx hb htt xin10 xT10 xTo10 xNm10 hown hK hP hD hS 0 rfl rfl 23 (by decide) (htt _ tw_802) (fun _ h9 => h9) rfl (by decide +kernel) rfl rfl (Nat.le_of_ble_eq_true rfl) d_R_watch_98 (fun H locs hP hD hS => ?_)
        have hP : va_P (dC, dI) xcl [(A 20, .inr (10, [.int (M.1 100), .ref (A 21), .ref (A 22), .ref (A 23), .ref (A 24), .ref (A 25), .int (M.1 101), .ref (A 26), .ref (A 27), .ref (A 28), .int (M.1 102), .long (M.2.1 100), .int (M.1 103), .int (M.1 104), .int (M.1 105), .int (M.1 106), .int (M.1 107), .int (M.1 108), .long (M.2.1 101), .long (M.2.1 102), .long (M.2.1 103), .int (M.1 109), .int 3, .int j4, .int (M.1 112), .int (M.1 113), .long (M.2.1 104), .long (M.2.1 105), .long (M.2.1 106), .int (M.1 114), .int (M.1 115), .int (M.1 116), .int (M.1 117), .int (M.1 118), .int (M.1 119), .int (M.1 120), .int (M.1 121), .int (M.1 122), .int (M.1 123), .int (M.1 124), .long (M.2.1 107), .int (M.1 125), .ref (A 29), .ref (A 30), .ref (A 31)])), (A 24, .inl (Z 0, 4, .inl (M.2.2.1 24)))] H := hP
        have hD : va_D AA [(A 20, .inr (10, [.int (M.1 100), .ref (A 21), .ref (A 22), .ref (A 23), .ref (A 24), .ref (A 25), .int (M.1 101), .ref (A 26), .ref (A 27), .ref (A 28), .int (M.1 102), .long (M.2.1 100), .int (M.1 103), .int (M.1 104), .int (M.1 105), .int (M.1 106), .int (M.1 107), .int (M.1 108), .long (M.2.1 101), .long (M.2.1 102), .long (M.2.1 103), .int (M.1 109), .int 3, .int j4, .int (M.1 112), .int (M.1 113), .long (M.2.1 104), .long (M.2.1 105), .long (M.2.1 106), .int (M.1 114), .int (M.1 115), .int (M.1 116), .int (M.1 117), .int (M.1 118), .int (M.1 119), .int (M.1 120), .int (M.1 121), .int (M.1 122), .int (M.1 123), .int (M.1 124), .long (M.2.1 107), .int (M.1 125), .ref (A 29), .ref (A 30), .ref (A 31)])), (A 24, .inl (Z 0, 4, .inl (M.2.2.1 24)))] := hD
        have hP9 := hP.sub (ws' := [(A 20, xc20 Z A (ap_R_watch M (3, j4))), (A 24, xc24 Z A (ap_R_watch M (3, j4)))]) [0, 1] rfl
        have hD9 := hD.sub (ws' := [(A 20, xc20 Z A (ap_R_watch M (3, j4))), (A 24, xc24 Z A (ap_R_watch M (3, j4)))]) [0, 1] (by decide) rfl
        exact W.vret hx hb hr (fun t ht hW => ⟨⟨(3, j4), rfl, (by rw [F_R_watch, ← hj1, F_R_watch_k2, ← hz3, F_R_watch_k3, ← hj4, F_R_watch_k5, if_neg h6]), xE_at hP9 hK hD9 ht hW⟩, hS.F ht⟩) hS.2.2 d_R_watch_101
      · have hP9 := hP.sub (ws' := [(A 20, xc20 Z A (ap_R_watch M ((M.1 110), (M.1 111)))), (A 24, xc24 Z A (ap_R_watch M ((M.1 110), (M.1 111))))]) [0, 1] rfl
        have hD9 := hD.sub (ws' := [(A 20, xc20 Z A (ap_R_watch M ((M.1 110), (M.1 111)))), (A 24, xc24 Z A (ap_R_watch M ((M.1 110), (M.1 111))))]) [0, 1] (by decide) rfl
        exact W.vret hx hb hr (fun t ht hW => ⟨⟨((M.1 110), (M.1 111)), rfl, (by rw [F_R_watch, ← hj1, F_R_watch_k2, ← hz3, F_R_watch_k3, ← hj4, F_R_watch_k5, if_pos h6]), xE_at hP9 hK hD9 ht hW⟩, hS.F ht⟩) hS.2.2 d_R_watch_90
abbrev bc_R_finish : ByteArray := prog_12_method_25_code
def y_R_finish : MethodName := ⟨"CentrifugeUnitModel", "finish", "()V"⟩
theorem d_R_finish_0 : decode bc_R_finish 0 = .ok (.aload_n 0, 1) := by decide +kernel
theorem d_R_finish_1 : decode bc_R_finish 1 = .ok (.iconst 0, 1) := by decide +kernel
theorem d_R_finish_2 : decode bc_R_finish 2 = .ok (.putfield 95, 3) := by decide +kernel
theorem d_R_finish_5 : decode bc_R_finish 5 = .ok (.aload_n 0, 1) := by decide +kernel
theorem d_R_finish_6 : decode bc_R_finish 6 = .ok (.getfield 58, 3) := by decide +kernel
theorem d_R_finish_9 : decode bc_R_finish 9 = .ok (.aload_n 0, 1) := by decide +kernel
theorem d_R_finish_10 : decode bc_R_finish 10 = .ok (.getfield 237, 3) := by decide +kernel
theorem d_R_finish_13 : decode bc_R_finish 13 = .ok (.bipush 16, 2) := by decide +kernel
theorem d_R_finish_15 : decode bc_R_finish 15 = .ok (.irem, 1) := by decide +kernel
theorem d_R_finish_16 : decode bc_R_finish 16 = .ok (.aload_n 0, 1) := by decide +kernel
theorem d_R_finish_17 : decode bc_R_finish 17 = .ok (.getfield 127, 3) := by decide +kernel
theorem d_R_finish_20 : decode bc_R_finish 20 = .ok (.i2l, 1) := by decide +kernel
theorem d_R_finish_21 : decode bc_R_finish 21 = .ok (.lastore, 1) := by decide +kernel
theorem d_R_finish_22 : decode bc_R_finish 22 = .ok (.aload_n 0, 1) := by decide +kernel
theorem d_R_finish_23 : decode bc_R_finish 23 = .ok (.getfield 62, 3) := by decide +kernel
theorem d_R_finish_26 : decode bc_R_finish 26 = .ok (.aload_n 0, 1) := by decide +kernel
theorem d_R_finish_27 : decode bc_R_finish 27 = .ok (.getfield 237, 3) := by decide +kernel
theorem d_R_finish_30 : decode bc_R_finish 30 = .ok (.bipush 16, 2) := by decide +kernel
theorem d_R_finish_32 : decode bc_R_finish 32 = .ok (.irem, 1) := by decide +kernel
theorem d_R_finish_33 : decode bc_R_finish 33 = .ok (.aload_n 0, 1) := by decide +kernel
theorem d_R_finish_34 : decode bc_R_finish 34 = .ok (.getfield 130, 3) := by decide +kernel
theorem d_R_finish_37 : decode bc_R_finish 37 = .ok (.lastore, 1) := by decide +kernel
theorem d_R_finish_38 : decode bc_R_finish 38 = .ok (.aload_n 0, 1) := by decide +kernel
theorem d_R_finish_39 : decode bc_R_finish 39 = .ok (.getfield 65, 3) := by decide +kernel
theorem d_R_finish_42 : decode bc_R_finish 42 = .ok (.aload_n 0, 1) := by decide +kernel
theorem d_R_finish_43 : decode bc_R_finish 43 = .ok (.getfield 237, 3) := by decide +kernel
theorem d_R_finish_46 : decode bc_R_finish 46 = .ok (.bipush 16, 2) := by decide +kernel
theorem d_R_finish_48 : decode bc_R_finish 48 = .ok (.irem, 1) := by decide +kernel
theorem d_R_finish_49 : decode bc_R_finish 49 = .ok (.aload_n 0, 1) := by decide +kernel
theorem d_R_finish_50 : decode bc_R_finish 50 = .ok (.getfield 149, 3) := by decide +kernel
theorem d_R_finish_53 : decode bc_R_finish 53 = .ok (.lastore, 1) := by decide +kernel
theorem d_R_finish_54 : decode bc_R_finish 54 = .ok (.aload_n 0, 1) := by decide +kernel
theorem d_R_finish_55 : decode bc_R_finish 55 = .ok (.dup, 1) := by decide +kernel
theorem d_R_finish_56 : decode bc_R_finish 56 = .ok (.getfield 237, 3) := by decide +kernel
theorem d_R_finish_59 : decode bc_R_finish 59 = .ok (.iconst 1, 1) := by decide +kernel
theorem d_R_finish_60 : decode bc_R_finish 60 = .ok (.iadd, 1) := by decide +kernel
theorem d_R_finish_61 : decode bc_R_finish 61 = .ok (.putfield 237, 3) := by decide +kernel
theorem d_R_finish_64 : decode bc_R_finish 64 = .ok (.return_, 1) := by decide +kernel
abbrev ap_R_finish (M : XM) (u : (Int32 × (Nat → Int64) × (Nat → Int64) × (Nat → Int64) × Int32)) : XM := ((va_up (va_up M.1 110 (u.1)) 125 (u.2.2.2.2)), M.2.1, M.2.2.1, (va_up (va_up (va_up M.2.2.2 29 (u.2.1)) 30 (u.2.2.1)) 31 (u.2.2.2.1)))
def F_R_finish (M : XM) : (Int32 × (Nat → Int64) × (Nat → Int64) × (Nat → Int64) × Int32) := (0, (vp_updL (M.2.2.2 29) (((M.1 125) - (M.1 125) / 16 * 16)).toNatClampNeg ((M.1 111)).toInt64), (vp_updL (M.2.2.2 30) (((M.1 125) - (M.1 125) / 16 * 16)).toNatClampNeg (M.2.1 105)), (vp_updL (M.2.2.2 31) (((M.1 125) - (M.1 125) / 16 * 16)).toNatClampNeg (M.2.1 107)), ((M.1 125) + 1))
set_option maxHeartbeats 4000000 in
set_option maxRecDepth 100000 in
theorem c_R_finish (l : Launch) (dC : Nat → ClassId) (dI : Nat → Nat → Nat) (Z : Nat → ClassId) (A : Nat → Nat) (sz : Nat) (M : XM) (hre : 0 ≤ (M.1 125)) : Met l y_R_finish (.code y_R_finish bc_R_finish 1 none :: xw) ({ frames := 0, cells := 0, slots := 0, locals := 0 }) (va_Pc [.ref (A 20)] (xB (dC, dI) xcl (xty Z) sz [(A 20, xc20 Z A M), (A 29, xc29 Z A M), (A 30, xc30 Z A M), (A 31, xc31 Z A M)])) (va_Qv (fun u : (Int32 × (Nat → Int64) × (Nat → Int64) × (Nat → Int64) × Int32) => u = F_R_finish M) (fun u => xE (dC, dI) xcl (xty Z) (va_A [(A 20, xc20 Z A M), (A 29, xc29 Z A M), (A 30, xc30 Z A M), (A 31, xc31 Z A M)] sz) [(A 20, xc20 Z A (ap_R_finish M u)), (A 29, xc29 Z A (ap_R_finish M u)), (A 30, xc30 Z A (ap_R_finish M u)), (A 31, xc31 Z A (ap_R_finish M u))]) (va_A [(A 20, xc20 Z A M), (A 29, xc29 Z A M), (A 30, xc30 Z A M), (A 31, xc31 Z A M)] sz)) 0 0 (va_A [(A 20, xc20 Z A M), (A 29, xc29 Z A M), (A 30, xc30 Z A M), (A 31, xc31 Z A M)] sz) := by
  refine Met.ofW (cc := bc_R_finish) (maxL := 1) (ret := none) (by decide) rfl ?_
  intro p e s m args below meth c s₁ B hml hv
  obtain ⟨rfl, hsz, hP, hK, hD0, hq⟩ := hv
  have hx := B.exec
  have hb := B.bytes
  have hr := B.returns
  have hts := atoms_spec (ws := (.code y_R_finish bc_R_finish 1 none :: xw)) B.pre
  have htt : ∀ w ∈ xw, w.before _ s = true := fun w h => hts w (List.mem_cons_of_mem _ h)
  have hown : s.vm.findClass "CentrifugeUnitModel" = some m.cls := findClass_of_methodNamed B.named
  have hlocks := B.notSynchronized
  subst hsz
  have hD := hD0.self (sz := s.heap.size)
  generalize hAe : va_A [(A 20, xc20 Z A M), (A 29, xc29 Z A M), (A 30, xc30 Z A M), (A 31, xc31 Z A M)] s.heap.size = AA at hD ⊢
  have hA : ∀ q : Nat, s.heap.size ≤ q → AA q := fun q h => by rw [← hAe]; exact Or.inr h
  have hS : va_S AA s.heap s.heap [] := va_S.rf
  have hP : va_P (dC, dI) xcl [(A 20, .inr (10, [.int (M.1 100), .ref (A 21), .ref (A 22), .ref (A 23), .ref (A 24), .ref (A 25), .int (M.1 101), .ref (A 26), .ref (A 27), .ref (A 28), .int (M.1 102), .long (M.2.1 100), .int (M.1 103), .int (M.1 104), .int (M.1 105), .int (M.1 106), .int (M.1 107), .int (M.1 108), .long (M.2.1 101), .long (M.2.1 102), .long (M.2.1 103), .int (M.1 109), .int (M.1 110), .int (M.1 111), .int (M.1 112), .int (M.1 113), .long (M.2.1 104), .long (M.2.1 105), .long (M.2.1 106), .int (M.1 114), .int (M.1 115), .int (M.1 116), .int (M.1 117), .int (M.1 118), .int (M.1 119), .int (M.1 120), .int (M.1 121), .int (M.1 122), .int (M.1 123), .int (M.1 124), .long (M.2.1 107), .int (M.1 125), .ref (A 29), .ref (A 30), .ref (A 31)])), (A 29, .inl (Z 1, 16, .inr (.inl (M.2.2.2 29)))), (A 30, .inl (Z 1, 16, .inr (.inl (M.2.2.2 30)))), (A 31, .inl (Z 1, 16, .inr (.inl (M.2.2.2 31))))] s.heap := hP
  have hD : va_D AA [(A 20, .inr (10, [.int (M.1 100), .ref (A 21), .ref (A 22), .ref (A 23), .ref (A 24), .ref (A 25), .int (M.1 101), .ref (A 26), .ref (A 27), .ref (A 28), .int (M.1 102), .long (M.2.1 100), .int (M.1 103), .int (M.1 104), .int (M.1 105), .int (M.1 106), .int (M.1 107), .int (M.1 108), .long (M.2.1 101), .long (M.2.1 102), .long (M.2.1 103), .int (M.1 109), .int (M.1 110), .int (M.1 111), .int (M.1 112), .int (M.1 113), .long (M.2.1 104), .long (M.2.1 105), .long (M.2.1 106), .int (M.1 114), .int (M.1 115), .int (M.1 116), .int (M.1 117), .int (M.1 118), .int (M.1 119), .int (M.1 120), .int (M.1 121), .int (M.1 122), .int (M.1 123), .int (M.1 124), .long (M.2.1 107), .int (M.1 125), .ref (A 29), .ref (A 30), .ref (A 31)])), (A 29, .inl (Z 1, 16, .inr (.inl (M.2.2.2 29)))), (A 30, .inl (Z 1, 16, .inr (.inl (M.2.2.2 30)))), (A 31, .inl (Z 1, 16, .inr (.inl (M.2.2.2 31))))] := hD
  have hl := lv_entry ([.ref (A 20)]) (n := 1) (Nat.le_of_ble_eq_true rfl)
  rw [lg_entry_eq]
  generalize (lg_sl ([.ref (A 20)]) ++ List.replicate (1 - (lg_sl ([.ref (A 20)])).length) Slot.unset).toArray = ls at hl ⊢
  have hl : lv_has ls 1 [(0, .ref (A 20))] := hl
  refine lv_aload_n hx hb d_R_finish_0 rfl (lv_at hl 0 rfl) ?_
  refine lv_iconst (v := 0) hx hb d_R_finish_1 (by decide) ?_
  refine va_put (D := (dC, dI)) (ci := 10) (v := .int 0) (ty := .int) (C := "CentrifugeUnitModel") (T := xF10) (N := 45) hx hb htt xin10 xT10 xTo10 xNm10 hown hK hP hD hS 0 rfl rfl 22 (by decide) (htt _ tw_801) (fun _ h9 => h9) rfl (by decide +kernel) rfl rfl (Nat.le_of_ble_eq_true rfl) d_R_finish_2 (fun H locs hP hD hS => ?_)
  have hP : va_P (dC, dI) xcl [(A 20, .inr (10, [.int (M.1 100), .ref (A 21), .ref (A 22), .ref (A 23), .ref (A 24), .ref (A 25), .int (M.1 101), .ref (A 26), .ref (A 27), .ref (A 28), .int (M.1 102), .long (M.2.1 100), .int (M.1 103), .int (M.1 104), .int (M.1 105), .int (M.1 106), .int (M.1 107), .int (M.1 108), .long (M.2.1 101), .long (M.2.1 102), .long (M.2.1 103), .int (M.1 109), .int 0, .int (M.1 111), .int (M.1 112), .int (M.1 113), .long (M.2.1 104), .long (M.2.1 105), .long (M.2.1 106), .int (M.1 114), .int (M.1 115), .int (M.1 116), .int (M.1 117), .int (M.1 118), .int (M.1 119), .int (M.1 120), .int (M.1 121), .int (M.1 122), .int (M.1 123), .int (M.1 124), .long (M.2.1 107), .int (M.1 125), .ref (A 29), .ref (A 30), .ref (A 31)])), (A 29, .inl (Z 1, 16, .inr (.inl (M.2.2.2 29)))), (A 30, .inl (Z 1, 16, .inr (.inl (M.2.2.2 30)))), (A 31, .inl (Z 1, 16, .inr (.inl (M.2.2.2 31))))] H := hP
  have hD : va_D AA [(A 20, .inr (10, [.int (M.1 100), .ref (A 21), .ref (A 22), .ref (A 23), .ref (A 24), .ref (A 25), .int (M.1 101), .ref (A 26), .ref (A 27), .ref (A 28), .int (M.1 102), .long (M.2.1 100), .int (M.1 103), .int (M.1 104), .int (M.1 105), .int (M.1 106), .int (M.1 107), .int (M.1 108), .long (M.2.1 101), .long (M.2.1 102), .long (M.2.1 103), .int (M.1 109), .int 0, .int (M.1 111), .int (M.1 112), .int (M.1 113), .long (M.2.1 104), .long (M.2.1 105), .long (M.2.1 106), .int (M.1 114), .int (M.1 115), .int (M.1 116), .int (M.1 117), .int (M.1 118), .int (M.1 119), .int (M.1 120), .int (M.1 121), .int (M.1 122), .int (M.1 123), .int (M.1 124), .long (M.2.1 107), .int (M.1 125), .ref (A 29), .ref (A 30), .ref (A 31)])), (A 29, .inl (Z 1, 16, .inr (.inl (M.2.2.2 29)))), (A 30, .inl (Z 1, 16, .inr (.inl (M.2.2.2 30)))), (A 31, .inl (Z 1, 16, .inr (.inl (M.2.2.2 31))))] := hD
  refine lv_aload_n hx hb d_R_finish_5 rfl (lv_at hl 0 rfl) ?_
  refine va_get (D := (dC, dI)) (ci := 10) (v := .ref (A 29)) (C := "CentrifugeUnitModel") (T := xF10) (N := 45) hx hb htt xin10 hown hK hP 0 rfl rfl 42 (by decide) (htt _ tw_821) (fun _ h9 => h9) rfl d_R_finish_6 ?_
  refine lv_aload_n hx hb d_R_finish_9 rfl (lv_at hl 0 rfl) ?_
  refine va_get (D := (dC, dI)) (ci := 10) (v := .int (M.1 125)) (C := "CentrifugeUnitModel") (T := xF10) (N := 45) hx hb htt xin10 hown hK hP 0 rfl rfl 41 (by decide) (htt _ tw_820) (fun _ h9 => h9) rfl d_R_finish_10 ?_
  refine lv_bipush (v := 16) hx hb d_R_finish_13 (by decide) ?_
  refine lv_irem hx hb d_R_finish_15 (by decide) ?_
  refine lv_aload_n hx hb d_R_finish_16 rfl (lv_at hl 0 rfl) ?_
  refine va_get (D := (dC, dI)) (ci := 10) (v := .int (M.1 111)) (C := "CentrifugeUnitModel") (T := xF10) (N := 45) hx hb htt xin10 hown hK hP 0 rfl rfl 23 (by decide) (htt _ tw_802) (fun _ h9 => h9) rfl d_R_finish_17 ?_
  refine lv_i2l (v := ((M.1 111)).toInt64) hx hb d_R_finish_20 rfl ?_
  refine va_last (D := (dC, dI)) hx hb hK hP hD hS 1 1 rfl rfl (xrm16 hre) d_R_finish_21 (fun H locs hP hD hS => ?_)
  have hP : va_P (dC, dI) xcl [(A 20, .inr (10, [.int (M.1 100), .ref (A 21), .ref (A 22), .ref (A 23), .ref (A 24), .ref (A 25), .int (M.1 101), .ref (A 26), .ref (A 27), .ref (A 28), .int (M.1 102), .long (M.2.1 100), .int (M.1 103), .int (M.1 104), .int (M.1 105), .int (M.1 106), .int (M.1 107), .int (M.1 108), .long (M.2.1 101), .long (M.2.1 102), .long (M.2.1 103), .int (M.1 109), .int 0, .int (M.1 111), .int (M.1 112), .int (M.1 113), .long (M.2.1 104), .long (M.2.1 105), .long (M.2.1 106), .int (M.1 114), .int (M.1 115), .int (M.1 116), .int (M.1 117), .int (M.1 118), .int (M.1 119), .int (M.1 120), .int (M.1 121), .int (M.1 122), .int (M.1 123), .int (M.1 124), .long (M.2.1 107), .int (M.1 125), .ref (A 29), .ref (A 30), .ref (A 31)])), (A 29, .inl (Z 1, 16, .inr (.inl (vp_updL (M.2.2.2 29) (((M.1 125) - (M.1 125) / 16 * 16)).toNatClampNeg ((M.1 111)).toInt64)))), (A 30, .inl (Z 1, 16, .inr (.inl (M.2.2.2 30)))), (A 31, .inl (Z 1, 16, .inr (.inl (M.2.2.2 31))))] H := hP
  have hD : va_D AA [(A 20, .inr (10, [.int (M.1 100), .ref (A 21), .ref (A 22), .ref (A 23), .ref (A 24), .ref (A 25), .int (M.1 101), .ref (A 26), .ref (A 27), .ref (A 28), .int (M.1 102), .long (M.2.1 100), .int (M.1 103), .int (M.1 104), .int (M.1 105), .int (M.1 106), .int (M.1 107), .int (M.1 108), .long (M.2.1 101), .long (M.2.1 102), .long (M.2.1 103), .int (M.1 109), .int 0, .int (M.1 111), .int (M.1 112), .int (M.1 113), .long (M.2.1 104), .long (M.2.1 105), .long (M.2.1 106), .int (M.1 114), .int (M.1 115), .int (M.1 116), .int (M.1 117), .int (M.1 118), .int (M.1 119), .int (M.1 120), .int (M.1 121), .int (M.1 122), .int (M.1 123), .int (M.1 124), .long (M.2.1 107), .int (M.1 125), .ref (A 29), .ref (A 30), .ref (A 31)])), (A 29, .inl (Z 1, 16, .inr (.inl (vp_updL (M.2.2.2 29) (((M.1 125) - (M.1 125) / 16 * 16)).toNatClampNeg ((M.1 111)).toInt64)))), (A 30, .inl (Z 1, 16, .inr (.inl (M.2.2.2 30)))), (A 31, .inl (Z 1, 16, .inr (.inl (M.2.2.2 31))))] := hD
  refine lv_aload_n hx hb d_R_finish_22 rfl (lv_at hl 0 rfl) ?_
  refine va_get (D := (dC, dI)) (ci := 10) (v := .ref (A 30)) (C := "CentrifugeUnitModel") (T := xF10) (N := 45) hx hb htt xin10 hown hK hP 0 rfl rfl 43 (by decide) (htt _ tw_822) (fun _ h9 => h9) rfl d_R_finish_23 ?_
  refine lv_aload_n hx hb d_R_finish_26 rfl (lv_at hl 0 rfl) ?_
  refine va_get (D := (dC, dI)) (ci := 10) (v := .int (M.1 125)) (C := "CentrifugeUnitModel") (T := xF10) (N := 45) hx hb htt xin10 hown hK hP 0 rfl rfl 41 (by decide) (htt _ tw_820) (fun _ h9 => h9) rfl d_R_finish_27 ?_
  refine lv_bipush (v := 16) hx hb d_R_finish_30 (by decide) ?_
  refine lv_irem hx hb d_R_finish_32 (by decide) ?_
  refine lv_aload_n hx hb d_R_finish_33 rfl (lv_at hl 0 rfl) ?_
  refine va_get (D := (dC, dI)) (ci := 10) (v := .long (M.2.1 105)) (C := "CentrifugeUnitModel") (T := xF10) (N := 45) hx hb htt xin10 hown hK hP 0 rfl rfl 27 (by decide) (htt _ tw_806) (fun _ h9 => h9) rfl d_R_finish_34 ?_
  refine va_last (D := (dC, dI)) hx hb hK hP hD hS 2 1 rfl rfl (xrm16 hre) d_R_finish_37 (fun H locs hP hD hS => ?_)
  have hP : va_P (dC, dI) xcl [(A 20, .inr (10, [.int (M.1 100), .ref (A 21), .ref (A 22), .ref (A 23), .ref (A 24), .ref (A 25), .int (M.1 101), .ref (A 26), .ref (A 27), .ref (A 28), .int (M.1 102), .long (M.2.1 100), .int (M.1 103), .int (M.1 104), .int (M.1 105), .int (M.1 106), .int (M.1 107), .int (M.1 108), .long (M.2.1 101), .long (M.2.1 102), .long (M.2.1 103), .int (M.1 109), .int 0, .int (M.1 111), .int (M.1 112), .int (M.1 113), .long (M.2.1 104), .long (M.2.1 105), .long (M.2.1 106), .int (M.1 114), .int (M.1 115), .int (M.1 116), .int (M.1 117), .int (M.1 118), .int (M.1 119), .int (M.1 120), .int (M.1 121), .int (M.1 122), .int (M.1 123), .int (M.1 124), .long (M.2.1 107), .int (M.1 125), .ref (A 29), .ref (A 30), .ref (A 31)])), (A 29, .inl (Z 1, 16, .inr (.inl (vp_updL (M.2.2.2 29) (((M.1 125) - (M.1 125) / 16 * 16)).toNatClampNeg ((M.1 111)).toInt64)))), (A 30, .inl (Z 1, 16, .inr (.inl (vp_updL (M.2.2.2 30) (((M.1 125) - (M.1 125) / 16 * 16)).toNatClampNeg (M.2.1 105))))), (A 31, .inl (Z 1, 16, .inr (.inl (M.2.2.2 31))))] H := hP
  have hD : va_D AA [(A 20, .inr (10, [.int (M.1 100), .ref (A 21), .ref (A 22), .ref (A 23), .ref (A 24), .ref (A 25), .int (M.1 101), .ref (A 26), .ref (A 27), .ref (A 28), .int (M.1 102), .long (M.2.1 100), .int (M.1 103), .int (M.1 104), .int (M.1 105), .int (M.1 106), .int (M.1 107), .int (M.1 108), .long (M.2.1 101), .long (M.2.1 102), .long (M.2.1 103), .int (M.1 109), .int 0, .int (M.1 111), .int (M.1 112), .int (M.1 113), .long (M.2.1 104), .long (M.2.1 105), .long (M.2.1 106), .int (M.1 114), .int (M.1 115), .int (M.1 116), .int (M.1 117), .int (M.1 118), .int (M.1 119), .int (M.1 120), .int (M.1 121), .int (M.1 122), .int (M.1 123), .int (M.1 124), .long (M.2.1 107), .int (M.1 125), .ref (A 29), .ref (A 30), .ref (A 31)])), (A 29, .inl (Z 1, 16, .inr (.inl (vp_updL (M.2.2.2 29) (((M.1 125) - (M.1 125) / 16 * 16)).toNatClampNeg ((M.1 111)).toInt64)))), (A 30, .inl (Z 1, 16, .inr (.inl (vp_updL (M.2.2.2 30) (((M.1 125) - (M.1 125) / 16 * 16)).toNatClampNeg (M.2.1 105))))), (A 31, .inl (Z 1, 16, .inr (.inl (M.2.2.2 31))))] := hD
  refine lv_aload_n hx hb d_R_finish_38 rfl (lv_at hl 0 rfl) ?_
  refine va_get (D := (dC, dI)) (ci := 10) (v := .ref (A 31)) (C := "CentrifugeUnitModel") (T := xF10) (N := 45) hx hb htt xin10 hown hK hP 0 rfl rfl 44 (by decide) (htt _ tw_823) (fun _ h9 => h9) rfl d_R_finish_39 ?_
  refine lv_aload_n hx hb d_R_finish_42 rfl (lv_at hl 0 rfl) ?_
  refine va_get (D := (dC, dI)) (ci := 10) (v := .int (M.1 125)) (C := "CentrifugeUnitModel") (T := xF10) (N := 45) hx hb htt xin10 hown hK hP 0 rfl rfl 41 (by decide) (htt _ tw_820) (fun _ h9 => h9) rfl d_R_finish_43 ?_
  refine lv_bipush (v := 16) hx hb d_R_finish_46 (by decide) ?_
  refine lv_irem hx hb d_R_finish_48 (by decide) ?_
  refine lv_aload_n hx hb d_R_finish_49 rfl (lv_at hl 0 rfl) ?_
  refine va_get (D := (dC, dI)) (ci := 10) (v := .long (M.2.1 107)) (C := "CentrifugeUnitModel") (T := xF10) (N := 45) hx hb htt xin10 hown hK hP 0 rfl rfl 40 (by decide) (htt _ tw_819) (fun _ h9 => h9) rfl d_R_finish_50 ?_
  refine va_last (D := (dC, dI)) hx hb hK hP hD hS 3 1 rfl rfl (xrm16 hre) d_R_finish_53 (fun H locs hP hD hS => ?_)
  have hP : va_P (dC, dI) xcl [(A 20, .inr (10, [.int (M.1 100), .ref (A 21), .ref (A 22), .ref (A 23), .ref (A 24), .ref (A 25), .int (M.1 101), .ref (A 26), .ref (A 27), .ref (A 28), .int (M.1 102), .long (M.2.1 100), .int (M.1 103), .int (M.1 104), .int (M.1 105), .int (M.1 106), .int (M.1 107), .int (M.1 108), .long (M.2.1 101), .long (M.2.1 102), .long (M.2.1 103), .int (M.1 109), .int 0, .int (M.1 111), .int (M.1 112), .int (M.1 113), .long (M.2.1 104), .long (M.2.1 105), .long (M.2.1 106), .int (M.1 114), .int (M.1 115), .int (M.1 116), .int (M.1 117), .int (M.1 118), .int (M.1 119), .int (M.1 120), .int (M.1 121), .int (M.1 122), .int (M.1 123), .int (M.1 124), .long (M.2.1 107), .int (M.1 125), .ref (A 29), .ref (A 30), .ref (A 31)])), (A 29, .inl (Z 1, 16, .inr (.inl (vp_updL (M.2.2.2 29) (((M.1 125) - (M.1 125) / 16 * 16)).toNatClampNeg ((M.1 111)).toInt64)))), (A 30, .inl (Z 1, 16, .inr (.inl (vp_updL (M.2.2.2 30) (((M.1 125) - (M.1 125) / 16 * 16)).toNatClampNeg (M.2.1 105))))), (A 31, .inl (Z 1, 16, .inr (.inl (vp_updL (M.2.2.2 31) (((M.1 125) - (M.1 125) / 16 * 16)).toNatClampNeg (M.2.1 107)))))] H := hP
  have hD : va_D AA [(A 20, .inr (10, [.int (M.1 100), .ref (A 21), .ref (A 22), .ref (A 23), .ref (A 24), .ref (A 25), .int (M.1 101), .ref (A 26), .ref (A 27), .ref (A 28), .int (M.1 102), .long (M.2.1 100), .int (M.1 103), .int (M.1 104), .int (M.1 105), .int (M.1 106), .int (M.1 107), .int (M.1 108), .long (M.2.1 101), .long (M.2.1 102), .long (M.2.1 103), .int (M.1 109), .int 0, .int (M.1 111), .int (M.1 112), .int (M.1 113), .long (M.2.1 104), .long (M.2.1 105), .long (M.2.1 106), .int (M.1 114), .int (M.1 115), .int (M.1 116), .int (M.1 117), .int (M.1 118), .int (M.1 119), .int (M.1 120), .int (M.1 121), .int (M.1 122), .int (M.1 123), .int (M.1 124), .long (M.2.1 107), .int (M.1 125), .ref (A 29), .ref (A 30), .ref (A 31)])), (A 29, .inl (Z 1, 16, .inr (.inl (vp_updL (M.2.2.2 29) (((M.1 125) - (M.1 125) / 16 * 16)).toNatClampNeg ((M.1 111)).toInt64)))), (A 30, .inl (Z 1, 16, .inr (.inl (vp_updL (M.2.2.2 30) (((M.1 125) - (M.1 125) / 16 * 16)).toNatClampNeg (M.2.1 105))))), (A 31, .inl (Z 1, 16, .inr (.inl (vp_updL (M.2.2.2 31) (((M.1 125) - (M.1 125) / 16 * 16)).toNatClampNeg (M.2.1 107)))))] := hD
  refine lv_aload_n hx hb d_R_finish_54 rfl (lv_at hl 0 rfl) ?_
  refine lv_dup hx hb d_R_finish_55 rfl ?_
  refine va_get (D := (dC, dI)) (ci := 10) (v := .int (M.1 125)) (C := "CentrifugeUnitModel") (T := xF10) (N := 45) hx hb htt xin10 hown hK hP 0 rfl rfl 41 (by decide) (htt _ tw_820) (fun _ h9 => h9) rfl d_R_finish_56 ?_
  refine lv_iconst (v := 1) hx hb d_R_finish_59 (by decide) ?_
  refine lv_iadd hx hb d_R_finish_60 ?_
  refine va_put (D := (dC, dI)) (ci := 10) (v := .int ((M.1 125) + 1)) (ty := .int) (C := "CentrifugeUnitModel") (T := xF10) (N := 45) hx hb htt xin10 xT10 xTo10 xNm10 hown hK hP hD hS 0 rfl rfl 41 (by decide) (htt _ tw_820) (fun _ h9 => h9) rfl (by decide +kernel) rfl rfl (Nat.le_of_ble_eq_true rfl) d_R_finish_61 (fun H locs hP hD hS => ?_)
  have hP : va_P (dC, dI) xcl [(A 20, .inr (10, [.int (M.1 100), .ref (A 21), .ref (A 22), .ref (A 23), .ref (A 24), .ref (A 25), .int (M.1 101), .ref (A 26), .ref (A 27), .ref (A 28), .int (M.1 102), .long (M.2.1 100), .int (M.1 103), .int (M.1 104), .int (M.1 105), .int (M.1 106), .int (M.1 107), .int (M.1 108), .long (M.2.1 101), .long (M.2.1 102), .long (M.2.1 103), .int (M.1 109), .int 0, .int (M.1 111), .int (M.1 112), .int (M.1 113), .long (M.2.1 104), .long (M.2.1 105), .long (M.2.1 106), .int (M.1 114), .int (M.1 115), .int (M.1 116), .int (M.1 117), .int (M.1 118), .int (M.1 119), .int (M.1 120), .int (M.1 121), .int (M.1 122), .int (M.1 123), .int (M.1 124), .long (M.2.1 107), .int ((M.1 125) + 1), .ref (A 29), .ref (A 30), .ref (A 31)])), (A 29, .inl (Z 1, 16, .inr (.inl (vp_updL (M.2.2.2 29) (((M.1 125) - (M.1 125) / 16 * 16)).toNatClampNeg ((M.1 111)).toInt64)))), (A 30, .inl (Z 1, 16, .inr (.inl (vp_updL (M.2.2.2 30) (((M.1 125) - (M.1 125) / 16 * 16)).toNatClampNeg (M.2.1 105))))), (A 31, .inl (Z 1, 16, .inr (.inl (vp_updL (M.2.2.2 31) (((M.1 125) - (M.1 125) / 16 * 16)).toNatClampNeg (M.2.1 107)))))] H := hP
  have hD : va_D AA [(A 20, .inr (10, [.int (M.1 100), .ref (A 21), .ref (A 22), .ref (A 23), .ref (A 24), .ref (A 25), .int (M.1 101), .ref (A 26), .ref (A 27), .ref (A 28), .int (M.1 102), .long (M.2.1 100), .int (M.1 103), .int (M.1 104), .int (M.1 105), .int (M.1 106), .int (M.1 107), .int (M.1 108), .long (M.2.1 101), .long (M.2.1 102), .long (M.2.1 103), .int (M.1 109), .int 0, .int (M.1 111), .int (M.1 112), .int (M.1 113), .long (M.2.1 104), .long (M.2.1 105), .long (M.2.1 106), .int (M.1 114), .int (M.1 115), .int (M.1 116), .int (M.1 117), .int (M.1 118), .int (M.1 119), .int (M.1 120), .int (M.1 121), .int (M.1 122), .int (M.1 123), .int (M.1 124), .long (M.2.1 107), .int ((M.1 125) + 1), .ref (A 29), .ref (A 30), .ref (A 31)])), (A 29, .inl (Z 1, 16, .inr (.inl (vp_updL (M.2.2.2 29) (((M.1 125) - (M.1 125) / 16 * 16)).toNatClampNeg ((M.1 111)).toInt64)))), (A 30, .inl (Z 1, 16, .inr (.inl (vp_updL (M.2.2.2 30) (((M.1 125) - (M.1 125) / 16 * 16)).toNatClampNeg (M.2.1 105))))), (A 31, .inl (Z 1, 16, .inr (.inl (vp_updL (M.2.2.2 31) (((M.1 125) - (M.1 125) / 16 * 16)).toNatClampNeg (M.2.1 107)))))] := hD
  have hP9 := hP.sub (ws' := [(A 20, xc20 Z A (ap_R_finish M (0, (vp_updL (M.2.2.2 29) (((M.1 125) - (M.1 125) / 16 * 16)).toNatClampNeg ((M.1 111)).toInt64), (vp_updL (M.2.2.2 30) (((M.1 125) - (M.1 125) / 16 * 16)).toNatClampNeg (M.2.1 105)), (vp_updL (M.2.2.2 31) (((M.1 125) - (M.1 125) / 16 * 16)).toNatClampNeg (M.2.1 107)), ((M.1 125) + 1)))), (A 29, xc29 Z A (ap_R_finish M (0, (vp_updL (M.2.2.2 29) (((M.1 125) - (M.1 125) / 16 * 16)).toNatClampNeg ((M.1 111)).toInt64), (vp_updL (M.2.2.2 30) (((M.1 125) - (M.1 125) / 16 * 16)).toNatClampNeg (M.2.1 105)), (vp_updL (M.2.2.2 31) (((M.1 125) - (M.1 125) / 16 * 16)).toNatClampNeg (M.2.1 107)), ((M.1 125) + 1)))), (A 30, xc30 Z A (ap_R_finish M (0, (vp_updL (M.2.2.2 29) (((M.1 125) - (M.1 125) / 16 * 16)).toNatClampNeg ((M.1 111)).toInt64), (vp_updL (M.2.2.2 30) (((M.1 125) - (M.1 125) / 16 * 16)).toNatClampNeg (M.2.1 105)), (vp_updL (M.2.2.2 31) (((M.1 125) - (M.1 125) / 16 * 16)).toNatClampNeg (M.2.1 107)), ((M.1 125) + 1)))), (A 31, xc31 Z A (ap_R_finish M (0, (vp_updL (M.2.2.2 29) (((M.1 125) - (M.1 125) / 16 * 16)).toNatClampNeg ((M.1 111)).toInt64), (vp_updL (M.2.2.2 30) (((M.1 125) - (M.1 125) / 16 * 16)).toNatClampNeg (M.2.1 105)), (vp_updL (M.2.2.2 31) (((M.1 125) - (M.1 125) / 16 * 16)).toNatClampNeg (M.2.1 107)), ((M.1 125) + 1))))]) [0, 1, 2, 3] rfl
  have hD9 := hD.sub (ws' := [(A 20, xc20 Z A (ap_R_finish M (0, (vp_updL (M.2.2.2 29) (((M.1 125) - (M.1 125) / 16 * 16)).toNatClampNeg ((M.1 111)).toInt64), (vp_updL (M.2.2.2 30) (((M.1 125) - (M.1 125) / 16 * 16)).toNatClampNeg (M.2.1 105)), (vp_updL (M.2.2.2 31) (((M.1 125) - (M.1 125) / 16 * 16)).toNatClampNeg (M.2.1 107)), ((M.1 125) + 1)))), (A 29, xc29 Z A (ap_R_finish M (0, (vp_updL (M.2.2.2 29) (((M.1 125) - (M.1 125) / 16 * 16)).toNatClampNeg ((M.1 111)).toInt64), (vp_updL (M.2.2.2 30) (((M.1 125) - (M.1 125) / 16 * 16)).toNatClampNeg (M.2.1 105)), (vp_updL (M.2.2.2 31) (((M.1 125) - (M.1 125) / 16 * 16)).toNatClampNeg (M.2.1 107)), ((M.1 125) + 1)))), (A 30, xc30 Z A (ap_R_finish M (0, (vp_updL (M.2.2.2 29) (((M.1 125) - (M.1 125) / 16 * 16)).toNatClampNeg ((M.1 111)).toInt64), (vp_updL (M.2.2.2 30) (((M.1 125) - (M.1 125) / 16 * 16)).toNatClampNeg (M.2.1 105)), (vp_updL (M.2.2.2 31) (((M.1 125) - (M.1 125) / 16 * 16)).toNatClampNeg (M.2.1 107)), ((M.1 125) + 1)))), (A 31, xc31 Z A (ap_R_finish M (0, (vp_updL (M.2.2.2 29) (((M.1 125) - (M.1 125) / 16 * 16)).toNatClampNeg ((M.1 111)).toInt64), (vp_updL (M.2.2.2 30) (((M.1 125) - (M.1 125) / 16 * 16)).toNatClampNeg (M.2.1 105)), (vp_updL (M.2.2.2 31) (((M.1 125) - (M.1 125) / 16 * 16)).toNatClampNeg (M.2.1 107)), ((M.1 125) + 1))))]) [0, 1, 2, 3] (by decide) rfl
  exact W.vret hx hb hr (fun t ht hW => ⟨⟨(0, (vp_updL (M.2.2.2 29) (((M.1 125) - (M.1 125) / 16 * 16)).toNatClampNeg ((M.1 111)).toInt64), (vp_updL (M.2.2.2 30) (((M.1 125) - (M.1 125) / 16 * 16)).toNatClampNeg (M.2.1 105)), (vp_updL (M.2.2.2 31) (((M.1 125) - (M.1 125) / 16 * 16)).toNatClampNeg (M.2.1 107)), ((M.1 125) + 1)), rfl, (by rw [F_R_finish]), xE_at hP9 hK hD9 ht hW⟩, hS.F ht⟩) hS.2.2 d_R_finish_64
abbrev bc_R_work : ByteArray := prog_12_method_23_code
def y_R_work : MethodName := ⟨"CentrifugeUnitModel", "work", "()Z"⟩
theorem d_R_work_0 : decode bc_R_work 0 = .ok (.aload_n 0, 1) := by decide +kernel
theorem d_R_work_1 : decode bc_R_work 1 = .ok (.getfield 30, 3) := by decide +kernel
theorem d_R_work_4 : decode bc_R_work 4 = .ok (.aload_n 0, 1) := by decide +kernel
theorem d_R_work_5 : decode bc_R_work 5 = .ok (.getfield 140, 3) := by decide +kernel
theorem d_R_work_8 : decode bc_R_work 8 = .ok (.iaload, 1) := by decide +kernel
theorem d_R_work_9 : decode bc_R_work 9 = .ok (.istore_n 1, 1) := by decide +kernel
theorem d_R_work_10 : decode bc_R_work 10 = .ok (.aload_n 0, 1) := by decide +kernel
theorem d_R_work_11 : decode bc_R_work 11 = .ok (.getfield 33, 3) := by decide +kernel
theorem d_R_work_14 : decode bc_R_work 14 = .ok (.aload_n 0, 1) := by decide +kernel
theorem d_R_work_15 : decode bc_R_work 15 = .ok (.getfield 140, 3) := by decide +kernel
theorem d_R_work_18 : decode bc_R_work 18 = .ok (.iaload, 1) := by decide +kernel
theorem d_R_work_19 : decode bc_R_work 19 = .ok (.i2l, 1) := by decide +kernel
theorem d_R_work_20 : decode bc_R_work 20 = .ok (.lstore_n 2, 1) := by decide +kernel
theorem d_R_work_21 : decode bc_R_work 21 = .ok (.aload_n 0, 1) := by decide +kernel
theorem d_R_work_22 : decode bc_R_work 22 = .ok (.dup, 1) := by decide +kernel
theorem d_R_work_23 : decode bc_R_work 23 = .ok (.getfield 143, 3) := by decide +kernel
theorem d_R_work_26 : decode bc_R_work 26 = .ok (.iconst 1, 1) := by decide +kernel
theorem d_R_work_27 : decode bc_R_work 27 = .ok (.iadd, 1) := by decide +kernel
theorem d_R_work_28 : decode bc_R_work 28 = .ok (.putfield 143, 3) := by decide +kernel
theorem d_R_work_31 : decode bc_R_work 31 = .ok (.iload_n 1, 1) := by decide +kernel
theorem d_R_work_32 : decode bc_R_work 32 = .ok (.iconst 3, 1) := by decide +kernel
theorem d_R_work_33 : decode bc_R_work 33 = .ok (.if_icmp .ne 39, 3) := by decide +kernel
theorem d_R_work_36 : decode bc_R_work 36 = .ok (.aload_n 0, 1) := by decide +kernel
theorem d_R_work_37 : decode bc_R_work 37 = .ok (.iconst 0, 1) := by decide +kernel
theorem d_R_work_38 : decode bc_R_work 38 = .ok (.putfield 171, 3) := by decide +kernel
theorem d_R_work_41 : decode bc_R_work 41 = .ok (.aload_n 0, 1) := by decide +kernel
theorem d_R_work_42 : decode bc_R_work 42 = .ok (.aload_n 0, 1) := by decide +kernel
theorem d_R_work_43 : decode bc_R_work 43 = .ok (.getfield 36, 3) := by decide +kernel
theorem d_R_work_46 : decode bc_R_work 46 = .ok (.aload_n 0, 1) := by decide +kernel
theorem d_R_work_47 : decode bc_R_work 47 = .ok (.getfield 140, 3) := by decide +kernel
theorem d_R_work_50 : decode bc_R_work 50 = .ok (.iaload, 1) := by decide +kernel
theorem d_R_work_51 : decode bc_R_work 51 = .ok (.putfield 174, 3) := by decide +kernel
theorem d_R_work_54 : decode bc_R_work 54 = .ok (.aload_n 0, 1) := by decide +kernel
theorem d_R_work_55 : decode bc_R_work 55 = .ok (.getfield 195, 3) := by decide +kernel
theorem d_R_work_58 : decode bc_R_work 58 = .ok (.lload_n 2, 1) := by decide +kernel
theorem d_R_work_59 : decode bc_R_work 59 = .ok (.lcmp, 1) := by decide +kernel
theorem d_R_work_60 : decode bc_R_work 60 = .ok (.ifCond .le 5, 3) := by decide +kernel
theorem d_R_work_63 : decode bc_R_work 63 = .ok (.iconst 0, 1) := by decide +kernel
theorem d_R_work_64 : decode bc_R_work 64 = .ok (.ireturn, 1) := by decide +kernel
theorem d_R_work_65 : decode bc_R_work 65 = .ok (.aload_n 0, 1) := by decide +kernel
theorem d_R_work_66 : decode bc_R_work 66 = .ok (.lload_n 2, 1) := by decide +kernel
theorem d_R_work_67 : decode bc_R_work 67 = .ok (.putfield 146, 3) := by decide +kernel
theorem d_R_work_70 : decode bc_R_work 70 = .ok (.iconst 1, 1) := by decide +kernel
theorem d_R_work_71 : decode bc_R_work 71 = .ok (.ireturn, 1) := by decide +kernel
theorem d_R_work_72 : decode bc_R_work 72 = .ok (.iload_n 1, 1) := by decide +kernel
theorem d_R_work_73 : decode bc_R_work 73 = .ok (.ifCond .ne 93, 3) := by decide +kernel
theorem d_R_work_76 : decode bc_R_work 76 = .ok (.aload_n 0, 1) := by decide +kernel
theorem d_R_work_77 : decode bc_R_work 77 = .ok (.getfield 143, 3) := by decide +kernel
theorem d_R_work_80 : decode bc_R_work 80 = .ok (.iconst 1, 1) := by decide +kernel
theorem d_R_work_81 : decode bc_R_work 81 = .ok (.if_icmp .ne 11, 3) := by decide +kernel
theorem d_R_work_84 : decode bc_R_work 84 = .ok (.aload_n 0, 1) := by decide +kernel
theorem d_R_work_85 : decode bc_R_work 85 = .ok (.aload_n 0, 1) := by decide +kernel
theorem d_R_work_86 : decode bc_R_work 86 = .ok (.getfield 195, 3) := by decide +kernel
theorem d_R_work_89 : decode bc_R_work 89 = .ok (.putfield 146, 3) := by decide +kernel
theorem d_R_work_92 : decode bc_R_work 92 = .ok (.aload_n 0, 1) := by decide +kernel
theorem d_R_work_93 : decode bc_R_work 93 = .ok (.getfield 36, 3) := by decide +kernel
theorem d_R_work_96 : decode bc_R_work 96 = .ok (.aload_n 0, 1) := by decide +kernel
theorem d_R_work_97 : decode bc_R_work 97 = .ok (.getfield 140, 3) := by decide +kernel
theorem d_R_work_100 : decode bc_R_work 100 = .ok (.iaload, 1) := by decide +kernel
theorem d_R_work_101 : decode bc_R_work 101 = .ok (.i2l, 1) := by decide +kernel
theorem d_R_work_102 : decode bc_R_work 102 = .ok (.lstore 4, 2) := by decide +kernel
theorem d_R_work_104 : decode bc_R_work 104 = .ok (.aload_n 0, 1) := by decide +kernel
theorem d_R_work_105 : decode bc_R_work 105 = .ok (.aload_n 0, 1) := by decide +kernel
theorem d_R_work_106 : decode bc_R_work 106 = .ok (.getfield 146, 3) := by decide +kernel
theorem d_R_work_109 : decode bc_R_work 109 = .ok (.lload_n 2, 1) := by decide +kernel
theorem d_R_work_110 : decode bc_R_work 110 = .ok (.lcmp, 1) := by decide +kernel
theorem d_R_work_111 : decode bc_R_work 111 = .ok (.ifCond .ge 29, 3) := by decide +kernel
theorem d_R_work_114 : decode bc_R_work 114 = .ok (.aload_n 0, 1) := by decide +kernel
theorem d_R_work_115 : decode bc_R_work 115 = .ok (.getfield 146, 3) := by decide +kernel
theorem d_R_work_118 : decode bc_R_work 118 = .ok (.lload 4, 2) := by decide +kernel
theorem d_R_work_120 : decode bc_R_work 120 = .ok (.ladd, 1) := by decide +kernel
theorem d_R_work_121 : decode bc_R_work 121 = .ok (.lload_n 2, 1) := by decide +kernel
theorem d_R_work_122 : decode bc_R_work 122 = .ok (.lcmp, 1) := by decide +kernel
theorem d_R_work_123 : decode bc_R_work 123 = .ok (.ifCond .ge 13, 3) := by decide +kernel
theorem d_R_work_126 : decode bc_R_work 126 = .ok (.aload_n 0, 1) := by decide +kernel
theorem d_R_work_127 : decode bc_R_work 127 = .ok (.getfield 146, 3) := by decide +kernel
theorem d_R_work_130 : decode bc_R_work 130 = .ok (.lload 4, 2) := by decide +kernel
theorem d_R_work_132 : decode bc_R_work 132 = .ok (.ladd, 1) := by decide +kernel
theorem d_R_work_133 : decode bc_R_work 133 = .ok (.goto 30, 3) := by decide +kernel
theorem d_R_work_136 : decode bc_R_work 136 = .ok (.lload_n 2, 1) := by decide +kernel
theorem d_R_work_137 : decode bc_R_work 137 = .ok (.goto 26, 3) := by decide +kernel
theorem d_R_work_140 : decode bc_R_work 140 = .ok (.aload_n 0, 1) := by decide +kernel
theorem d_R_work_141 : decode bc_R_work 141 = .ok (.getfield 146, 3) := by decide +kernel
theorem d_R_work_144 : decode bc_R_work 144 = .ok (.lload 4, 2) := by decide +kernel
theorem d_R_work_146 : decode bc_R_work 146 = .ok (.lsub, 1) := by decide +kernel
theorem d_R_work_147 : decode bc_R_work 147 = .ok (.lload_n 2, 1) := by decide +kernel
theorem d_R_work_148 : decode bc_R_work 148 = .ok (.lcmp, 1) := by decide +kernel
theorem d_R_work_149 : decode bc_R_work 149 = .ok (.ifCond .le 13, 3) := by decide +kernel
theorem d_R_work_152 : decode bc_R_work 152 = .ok (.aload_n 0, 1) := by decide +kernel
theorem d_R_work_153 : decode bc_R_work 153 = .ok (.getfield 146, 3) := by decide +kernel
theorem d_R_work_156 : decode bc_R_work 156 = .ok (.lload 4, 2) := by decide +kernel
theorem d_R_work_158 : decode bc_R_work 158 = .ok (.lsub, 1) := by decide +kernel
theorem d_R_work_159 : decode bc_R_work 159 = .ok (.goto 4, 3) := by decide +kernel
theorem d_R_work_162 : decode bc_R_work 162 = .ok (.lload_n 2, 1) := by decide +kernel
theorem d_R_work_163 : decode bc_R_work 163 = .ok (.putfield 146, 3) := by decide +kernel
theorem d_R_work_166 : decode bc_R_work 166 = .ok (.aload_n 0, 1) := by decide +kernel
theorem d_R_work_167 : decode bc_R_work 167 = .ok (.invokevirtual 220, 3) := by decide +kernel
theorem d_R_work_170 : decode bc_R_work 170 = .ok (.iload_n 1, 1) := by decide +kernel
theorem d_R_work_171 : decode bc_R_work 171 = .ok (.ifCond .ne 38, 3) := by decide +kernel
theorem d_R_work_174 : decode bc_R_work 174 = .ok (.aload_n 0, 1) := by decide +kernel
theorem d_R_work_175 : decode bc_R_work 175 = .ok (.getfield 146, 3) := by decide +kernel
theorem d_R_work_178 : decode bc_R_work 178 = .ok (.lload_n 2, 1) := by decide +kernel
theorem d_R_work_179 : decode bc_R_work 179 = .ok (.lcmp, 1) := by decide +kernel
theorem d_R_work_180 : decode bc_R_work 180 = .ok (.ifCond .ne 27, 3) := by decide +kernel
theorem d_R_work_183 : decode bc_R_work 183 = .ok (.aload_n 0, 1) := by decide +kernel
theorem d_R_work_184 : decode bc_R_work 184 = .ok (.getfield 195, 3) := by decide +kernel
theorem d_R_work_187 : decode bc_R_work 187 = .ok (.lload_n 2, 1) := by decide +kernel
theorem d_R_work_188 : decode bc_R_work 188 = .ok (.ldc2_w 89, 3) := by decide +kernel
theorem d_R_work_191 : decode bc_R_work 191 = .ok (.lsub, 1) := by decide +kernel
theorem d_R_work_192 : decode bc_R_work 192 = .ok (.lload_n 2, 1) := by decide +kernel
theorem d_R_work_193 : decode bc_R_work 193 = .ok (.ldc2_w 89, 3) := by decide +kernel
theorem d_R_work_196 : decode bc_R_work 196 = .ok (.ladd, 1) := by decide +kernel
theorem d_R_work_197 : decode bc_R_work 197 = .ok (.invokestatic 79, 3) := by decide +kernel
theorem d_R_work_200 : decode bc_R_work 200 = .ok (.ifCond .eq 7, 3) := by decide +kernel
theorem d_R_work_203 : decode bc_R_work 203 = .ok (.iconst 1, 1) := by decide +kernel
theorem d_R_work_204 : decode bc_R_work 204 = .ok (.goto 4, 3) := by decide +kernel
theorem d_R_work_207 : decode bc_R_work 207 = .ok (.iconst 0, 1) := by decide +kernel
theorem d_R_work_208 : decode bc_R_work 208 = .ok (.ireturn, 1) := by decide +kernel
theorem d_R_work_209 : decode bc_R_work 209 = .ok (.iload_n 1, 1) := by decide +kernel
theorem d_R_work_210 : decode bc_R_work 210 = .ok (.iconst 1, 1) := by decide +kernel
theorem d_R_work_211 : decode bc_R_work 211 = .ok (.if_icmp .ne 21, 3) := by decide +kernel
theorem d_R_work_214 : decode bc_R_work 214 = .ok (.aload_n 0, 1) := by decide +kernel
theorem d_R_work_215 : decode bc_R_work 215 = .ok (.getfield 143, 3) := by decide +kernel
theorem d_R_work_218 : decode bc_R_work 218 = .ok (.i2l, 1) := by decide +kernel
theorem d_R_work_219 : decode bc_R_work 219 = .ok (.lload_n 2, 1) := by decide +kernel
theorem d_R_work_220 : decode bc_R_work 220 = .ok (.lcmp, 1) := by decide +kernel
theorem d_R_work_221 : decode bc_R_work 221 = .ok (.ifCond .ne 7, 3) := by decide +kernel
theorem d_R_work_224 : decode bc_R_work 224 = .ok (.iconst 1, 1) := by decide +kernel
theorem d_R_work_225 : decode bc_R_work 225 = .ok (.goto 48, 3) := by decide +kernel
theorem d_R_work_228 : decode bc_R_work 228 = .ok (.iconst 0, 1) := by decide +kernel
theorem d_R_work_229 : decode bc_R_work 229 = .ok (.goto 44, 3) := by decide +kernel
theorem d_R_work_232 : decode bc_R_work 232 = .ok (.iload_n 1, 1) := by decide +kernel
theorem d_R_work_233 : decode bc_R_work 233 = .ok (.iconst 2, 1) := by decide +kernel
theorem d_R_work_234 : decode bc_R_work 234 = .ok (.if_icmp .ne 24, 3) := by decide +kernel
theorem d_R_work_237 : decode bc_R_work 237 = .ok (.aload_n 0, 1) := by decide +kernel
theorem d_R_work_238 : decode bc_R_work 238 = .ok (.getfield 130, 3) := by decide +kernel
theorem d_R_work_241 : decode bc_R_work 241 = .ok (.ldc2_w 223, 3) := by decide +kernel
theorem d_R_work_244 : decode bc_R_work 244 = .ok (.lload_n 2, 1) := by decide +kernel
theorem d_R_work_245 : decode bc_R_work 245 = .ok (.lmul, 1) := by decide +kernel
theorem d_R_work_246 : decode bc_R_work 246 = .ok (.lcmp, 1) := by decide +kernel
theorem d_R_work_247 : decode bc_R_work 247 = .ok (.ifCond .lt 7, 3) := by decide +kernel
theorem d_R_work_250 : decode bc_R_work 250 = .ok (.iconst 1, 1) := by decide +kernel
theorem d_R_work_251 : decode bc_R_work 251 = .ok (.goto 22, 3) := by decide +kernel
theorem d_R_work_254 : decode bc_R_work 254 = .ok (.iconst 0, 1) := by decide +kernel
theorem d_R_work_255 : decode bc_R_work 255 = .ok (.goto 18, 3) := by decide +kernel
theorem d_R_work_258 : decode bc_R_work 258 = .ok (.aload_n 0, 1) := by decide +kernel
theorem d_R_work_259 : decode bc_R_work 259 = .ok (.getfield 55, 3) := by decide +kernel
theorem d_R_work_262 : decode bc_R_work 262 = .ok (.i2l, 1) := by decide +kernel
theorem d_R_work_263 : decode bc_R_work 263 = .ok (.lload_n 2, 1) := by decide +kernel
theorem d_R_work_264 : decode bc_R_work 264 = .ok (.lcmp, 1) := by decide +kernel
theorem d_R_work_265 : decode bc_R_work 265 = .ok (.ifCond .gt 7, 3) := by decide +kernel
theorem d_R_work_268 : decode bc_R_work 268 = .ok (.iconst 1, 1) := by decide +kernel
theorem d_R_work_269 : decode bc_R_work 269 = .ok (.goto 4, 3) := by decide +kernel
theorem d_R_work_272 : decode bc_R_work 272 = .ok (.iconst 0, 1) := by decide +kernel
theorem d_R_work_273 : decode bc_R_work 273 = .ok (.ireturn, 1) := by decide +kernel
abbrev ap_R_work (M : XM) (u : (Int32 × Int64 × Int32 × Int32)) : XM := ((va_up (va_up (va_up M.1 113 (u.1)) 103 (u.2.2.1)) 104 (u.2.2.2)), (va_up M.2.1 104 (u.2.1)), M.2.2)
def F_R_work_k8 (M : XM) (j2 : Int64) (u4 : (Int32 × Int32)) (z12 : Int32) : Int32 × (Int32 × Int64 × Int32 × Int32) := (if z12 = 0 then (0, (((M.1 113) + 1), j2, (u4.1), (u4.2))) else (1, (((M.1 113) + 1), j2, (u4.1), (u4.2))))
def F_R_work_k7 (M : XM) (j2 : Int64) (u4 : (Int32 × Int32)) : Int32 × (Int32 × Int64 × Int32 × Int32) := (if ((M.2.2.1 26) ((M.1 112)).toNatClampNeg) = 0 then (if (lg_cmp j2 (((M.2.2.1 27) ((M.1 112)).toNatClampNeg)).toInt64) = 0 then (F_R_work_k8 M j2 u4 (F_R_in M (M.2.1 103) ((((M.2.2.1 27) ((M.1 112)).toNatClampNeg)).toInt64 - 100) ((((M.2.2.1 27) ((M.1 112)).toNatClampNeg)).toInt64 + 100))) else (0, (((M.1 113) + 1), j2, (u4.1), (u4.2)))) else (if ((M.2.2.1 26) ((M.1 112)).toNatClampNeg) = 1 then (if (lg_cmp (((M.1 113) + 1)).toInt64 (((M.2.2.1 27) ((M.1 112)).toNatClampNeg)).toInt64) = 0 then (1, (((M.1 113) + 1), j2, (u4.1), (u4.2))) else (0, (((M.1 113) + 1), j2, (u4.1), (u4.2)))) else (if ((M.2.2.1 26) ((M.1 112)).toNatClampNeg) = 2 then (if (lg_cmp (M.2.1 105) (1000000000 * (((M.2.2.1 27) ((M.1 112)).toNatClampNeg)).toInt64)) < 0 then (0, (((M.1 113) + 1), j2, (u4.1), (u4.2))) else (1, (((M.1 113) + 1), j2, (u4.1), (u4.2)))) else (if 0 < (lg_cmp ((M.1 124)).toInt64 (((M.2.2.1 27) ((M.1 112)).toNatClampNeg)).toInt64) then (0, (((M.1 113) + 1), j2, (u4.1), (u4.2))) else (1, (((M.1 113) + 1), j2, (u4.1), (u4.2)))))))
def F_R_work_k6 (M : XM) (j2 : Int64) : Int32 × (Int32 × Int64 × Int32 × Int32) := (F_R_work_k7 M j2 (F_R_steer ((va_up M.1 113 ((M.1 113) + 1)), (va_up M.2.1 104 j2), M.2.2)))
def F_R_work_k12 (M : XM) (j15 : Int64) (j17 : Int64) : Int64 := j17
def F_R_work_j11 (M : XM) (j15 : Int64) : Int64 := (if 0 ≤ (lg_cmp j15 (((M.2.2.1 27) ((M.1 112)).toNatClampNeg)).toInt64) then (if (lg_cmp (j15 - (((M.2.2.1 28) ((M.1 112)).toNatClampNeg)).toInt64) (((M.2.2.1 27) ((M.1 112)).toNatClampNeg)).toInt64) ≤ 0 then (((M.2.2.1 27) ((M.1 112)).toNatClampNeg)).toInt64 else (j15 - (((M.2.2.1 28) ((M.1 112)).toNatClampNeg)).toInt64)) else (if 0 ≤ (lg_cmp (j15 + (((M.2.2.1 28) ((M.1 112)).toNatClampNeg)).toInt64) (((M.2.2.1 27) ((M.1 112)).toNatClampNeg)).toInt64) then (((M.2.2.1 27) ((M.1 112)).toNatClampNeg)).toInt64 else (j15 + (((M.2.2.1 28) ((M.1 112)).toNatClampNeg)).toInt64)))
def F_R_work_k10 (M : XM) (j15 : Int64) : Int64 := (F_R_work_k12 M j15 (F_R_work_j11 M j15))
def F_R_work_j9 (M : XM) : Int64 := (if ((M.1 113) + 1) = 1 then (M.2.1 103) else (M.2.1 104))
def F_R_work_j5 (M : XM) : Int64 := (if ((M.2.2.1 26) ((M.1 112)).toNatClampNeg) = 0 then (F_R_work_k10 M (F_R_work_j9 M)) else (M.2.1 104))
def F_R_work (M : XM) : Int32 × (Int32 × Int64 × Int32 × Int32) := (if ((M.2.2.1 26) ((M.1 112)).toNatClampNeg) = 3 then (if (lg_cmp (M.2.1 103) (((M.2.2.1 27) ((M.1 112)).toNatClampNeg)).toInt64) ≤ 0 then (1, (((M.1 113) + 1), (((M.2.2.1 27) ((M.1 112)).toNatClampNeg)).toInt64, 0, ((M.2.2.1 28) ((M.1 112)).toNatClampNeg))) else (0, (((M.1 113) + 1), (M.2.1 104), 0, ((M.2.2.1 28) ((M.1 112)).toNatClampNeg)))) else (F_R_work_k6 M (F_R_work_j5 M)))
set_option maxHeartbeats 4000000 in
set_option maxRecDepth 100000 in
theorem c_R_work (l : Launch) (dC : Nat → ClassId) (dI : Nat → Nat → Nat) (Z : Nat → ClassId) (A : Nat → Nat) (sz : Nat) (M : XM) (hsg : vp_in (M.1 112) 12) : Met l y_R_work (.code y_R_work bc_R_work 6 (some .boolean) :: xw) ({ frames := 1, cells := 0, slots := 0, locals := 25 }) (va_Pc [.ref (A 20)] (xB (dC, dI) xcl (xty Z) sz [(A 20, xc20 Z A M), (A 26, xc26 Z A M), (A 27, xc27 Z A M), (A 28, xc28 Z A M)])) (va_Qi (fun (r : Int32) (u : (Int32 × Int64 × Int32 × Int32)) => (r, u) = F_R_work M) (fun u => xE (dC, dI) xcl (xty Z) (va_A [(A 20, xc20 Z A M), (A 26, xc26 Z A M), (A 27, xc27 Z A M), (A 28, xc28 Z A M)] sz) [(A 20, xc20 Z A (ap_R_work M u)), (A 26, xc26 Z A (ap_R_work M u)), (A 27, xc27 Z A (ap_R_work M u)), (A 28, xc28 Z A (ap_R_work M u))]) (va_A [(A 20, xc20 Z A M), (A 26, xc26 Z A M), (A 27, xc27 Z A M), (A 28, xc28 Z A M)] sz)) 0 0 (va_A [(A 20, xc20 Z A M), (A 26, xc26 Z A M), (A 27, xc27 Z A M), (A 28, xc28 Z A M)] sz) := by
  refine Met.ofW (cc := bc_R_work) (maxL := 6) (ret := (some .boolean)) (by decide) rfl ?_
  intro p e s m args below meth c s₁ B hml hv
  obtain ⟨rfl, hsz, hP, hK, hD0, hq⟩ := hv
  have hx := B.exec
  have hb := B.bytes
  have hr := B.returns
  have hts := atoms_spec (ws := (.code y_R_work bc_R_work 6 (some .boolean) :: xw)) B.pre
  have htt : ∀ w ∈ xw, w.before _ s = true := fun w h => hts w (List.mem_cons_of_mem _ h)
  have hown : s.vm.findClass "CentrifugeUnitModel" = some m.cls := findClass_of_methodNamed B.named
  have hlocks := B.notSynchronized
  subst hsz
  have hD := hD0.self (sz := s.heap.size)
  generalize hAe : va_A [(A 20, xc20 Z A M), (A 26, xc26 Z A M), (A 27, xc27 Z A M), (A 28, xc28 Z A M)] s.heap.size = AA at hD ⊢
  have hA : ∀ q : Nat, s.heap.size ≤ q → AA q := fun q h => by rw [← hAe]; exact Or.inr h
  have hS : va_S AA s.heap s.heap [] := va_S.rf
  have hP : va_P (dC, dI) xcl [(A 20, .inr (10, [.int (M.1 100), .ref (A 21), .ref (A 22), .ref (A 23), .ref (A 24), .ref (A 25), .int (M.1 101), .ref (A 26), .ref (A 27), .ref (A 28), .int (M.1 102), .long (M.2.1 100), .int (M.1 103), .int (M.1 104), .int (M.1 105), .int (M.1 106), .int (M.1 107), .int (M.1 108), .long (M.2.1 101), .long (M.2.1 102), .long (M.2.1 103), .int (M.1 109), .int (M.1 110), .int (M.1 111), .int (M.1 112), .int (M.1 113), .long (M.2.1 104), .long (M.2.1 105), .long (M.2.1 106), .int (M.1 114), .int (M.1 115), .int (M.1 116), .int (M.1 117), .int (M.1 118), .int (M.1 119), .int (M.1 120), .int (M.1 121), .int (M.1 122), .int (M.1 123), .int (M.1 124), .long (M.2.1 107), .int (M.1 125), .ref (A 29), .ref (A 30), .ref (A 31)])), (A 26, .inl (Z 0, 12, .inl (M.2.2.1 26))), (A 27, .inl (Z 0, 12, .inl (M.2.2.1 27))), (A 28, .inl (Z 0, 12, .inl (M.2.2.1 28)))] s.heap := hP
  have hD : va_D AA [(A 20, .inr (10, [.int (M.1 100), .ref (A 21), .ref (A 22), .ref (A 23), .ref (A 24), .ref (A 25), .int (M.1 101), .ref (A 26), .ref (A 27), .ref (A 28), .int (M.1 102), .long (M.2.1 100), .int (M.1 103), .int (M.1 104), .int (M.1 105), .int (M.1 106), .int (M.1 107), .int (M.1 108), .long (M.2.1 101), .long (M.2.1 102), .long (M.2.1 103), .int (M.1 109), .int (M.1 110), .int (M.1 111), .int (M.1 112), .int (M.1 113), .long (M.2.1 104), .long (M.2.1 105), .long (M.2.1 106), .int (M.1 114), .int (M.1 115), .int (M.1 116), .int (M.1 117), .int (M.1 118), .int (M.1 119), .int (M.1 120), .int (M.1 121), .int (M.1 122), .int (M.1 123), .int (M.1 124), .long (M.2.1 107), .int (M.1 125), .ref (A 29), .ref (A 30), .ref (A 31)])), (A 26, .inl (Z 0, 12, .inl (M.2.2.1 26))), (A 27, .inl (Z 0, 12, .inl (M.2.2.1 27))), (A 28, .inl (Z 0, 12, .inl (M.2.2.1 28)))] := hD
  have hl := lv_entry ([.ref (A 20)]) (n := 6) (Nat.le_of_ble_eq_true rfl)
  rw [lg_entry_eq]
  generalize (lg_sl ([.ref (A 20)]) ++ List.replicate (6 - (lg_sl ([.ref (A 20)])).length) Slot.unset).toArray = ls at hl ⊢
  have hl : lv_has ls 6 [(0, .ref (A 20))] := hl
  refine lv_aload_n hx hb d_R_work_0 rfl (lv_at hl 0 rfl) ?_
  refine va_get (D := (dC, dI)) (ci := 10) (v := .ref (A 26)) (C := "CentrifugeUnitModel") (T := xF10) (N := 45) hx hb htt xin10 hown hK hP 0 rfl rfl 7 (by decide) (htt _ tw_786) (fun _ h9 => h9) rfl d_R_work_1 ?_
  refine lv_aload_n hx hb d_R_work_4 rfl (lv_at hl 0 rfl) ?_
  refine va_get (D := (dC, dI)) (ci := 10) (v := .int (M.1 112)) (C := "CentrifugeUnitModel") (T := xF10) (N := 45) hx hb htt xin10 hown hK hP 0 rfl rfl 24 (by decide) (htt _ tw_803) (fun _ h9 => h9) rfl d_R_work_5 ?_
  refine va_iald (D := (dC, dI)) hx hb hK hP 1 0 rfl rfl hsg d_R_work_8 ?_
  refine lv_istore_n (lv' := [(1, .int ((M.2.2.1 26) ((M.1 112)).toNatClampNeg)), (0, .ref (A 20))]) hx hb d_R_work_9 rfl hl (by decide) rfl (fun ls hl => ?_)
  refine lv_aload_n hx hb d_R_work_10 rfl (lv_at hl 1 rfl) ?_
  refine va_get (D := (dC, dI)) (ci := 10) (v := .ref (A 27)) (C := "CentrifugeUnitModel") (T := xF10) (N := 45) hx hb htt xin10 hown hK hP 0 rfl rfl 8 (by decide) (htt _ tw_787) (fun _ h9 => h9) rfl d_R_work_11 ?_
  refine lv_aload_n hx hb d_R_work_14 rfl (lv_at hl 1 rfl) ?_
  refine va_get (D := (dC, dI)) (ci := 10) (v := .int (M.1 112)) (C := "CentrifugeUnitModel") (T := xF10) (N := 45) hx hb htt xin10 hown hK hP 0 rfl rfl 24 (by decide) (htt _ tw_803) (fun _ h9 => h9) rfl d_R_work_15 ?_
  refine va_iald (D := (dC, dI)) hx hb hK hP 2 0 rfl rfl hsg d_R_work_18 ?_
  refine lv_i2l (v := (((M.2.2.1 27) ((M.1 112)).toNatClampNeg)).toInt64) hx hb d_R_work_19 rfl ?_
  refine lv_lstore_n (lv' := [(2, .long (((M.2.2.1 27) ((M.1 112)).toNatClampNeg)).toInt64), (1, .int ((M.2.2.1 26) ((M.1 112)).toNatClampNeg)), (0, .ref (A 20))]) hx hb d_R_work_20 rfl hl (by decide) rfl (fun ls hl => ?_)
  refine lv_aload_n hx hb d_R_work_21 rfl (lv_at hl 2 rfl) ?_
  refine lv_dup hx hb d_R_work_22 rfl ?_
  refine va_get (D := (dC, dI)) (ci := 10) (v := .int (M.1 113)) (C := "CentrifugeUnitModel") (T := xF10) (N := 45) hx hb htt xin10 hown hK hP 0 rfl rfl 25 (by decide) (htt _ tw_804) (fun _ h9 => h9) rfl d_R_work_23 ?_
  refine lv_iconst (v := 1) hx hb d_R_work_26 (by decide) ?_
  refine lv_iadd hx hb d_R_work_27 ?_
  refine va_put (D := (dC, dI)) (ci := 10) (v := .int ((M.1 113) + 1)) (ty := .int) (C := "CentrifugeUnitModel") (T := xF10) (N := 45) hx hb htt xin10 xT10 xTo10 xNm10 hown hK hP hD hS 0 rfl rfl 25 (by decide) (htt _ tw_804) (fun _ h9 => h9) rfl (by decide +kernel) rfl rfl (Nat.le_of_ble_eq_true rfl) d_R_work_28 (fun H locs hP hD hS => ?_)
  have hP : va_P (dC, dI) xcl [(A 20, .inr (10, [.int (M.1 100), .ref (A 21), .ref (A 22), .ref (A 23), .ref (A 24), .ref (A 25), .int (M.1 101), .ref (A 26), .ref (A 27), .ref (A 28), .int (M.1 102), .long (M.2.1 100), .int (M.1 103), .int (M.1 104), .int (M.1 105), .int (M.1 106), .int (M.1 107), .int (M.1 108), .long (M.2.1 101), .long (M.2.1 102), .long (M.2.1 103), .int (M.1 109), .int (M.1 110), .int (M.1 111), .int (M.1 112), .int ((M.1 113) + 1), .long (M.2.1 104), .long (M.2.1 105), .long (M.2.1 106), .int (M.1 114), .int (M.1 115), .int (M.1 116), .int (M.1 117), .int (M.1 118), .int (M.1 119), .int (M.1 120), .int (M.1 121), .int (M.1 122), .int (M.1 123), .int (M.1 124), .long (M.2.1 107), .int (M.1 125), .ref (A 29), .ref (A 30), .ref (A 31)])), (A 26, .inl (Z 0, 12, .inl (M.2.2.1 26))), (A 27, .inl (Z 0, 12, .inl (M.2.2.1 27))), (A 28, .inl (Z 0, 12, .inl (M.2.2.1 28)))] H := hP
  have hD : va_D AA [(A 20, .inr (10, [.int (M.1 100), .ref (A 21), .ref (A 22), .ref (A 23), .ref (A 24), .ref (A 25), .int (M.1 101), .ref (A 26), .ref (A 27), .ref (A 28), .int (M.1 102), .long (M.2.1 100), .int (M.1 103), .int (M.1 104), .int (M.1 105), .int (M.1 106), .int (M.1 107), .int (M.1 108), .long (M.2.1 101), .long (M.2.1 102), .long (M.2.1 103), .int (M.1 109), .int (M.1 110), .int (M.1 111), .int (M.1 112), .int ((M.1 113) + 1), .long (M.2.1 104), .long (M.2.1 105), .long (M.2.1 106), .int (M.1 114), .int (M.1 115), .int (M.1 116), .int (M.1 117), .int (M.1 118), .int (M.1 119), .int (M.1 120), .int (M.1 121), .int (M.1 122), .int (M.1 123), .int (M.1 124), .long (M.2.1 107), .int (M.1 125), .ref (A 29), .ref (A 30), .ref (A 31)])), (A 26, .inl (Z 0, 12, .inl (M.2.2.1 26))), (A 27, .inl (Z 0, 12, .inl (M.2.2.1 27))), (A 28, .inl (Z 0, 12, .inl (M.2.2.1 28)))] := hD
  refine lv_iload_n hx hb d_R_work_31 rfl (lv_at hl 1 rfl) ?_
  refine lv_iconst (v := 3) hx hb d_R_work_32 (by decide) ?_
  refine lv_icmp_ne (tgt := 72) hx hb d_R_work_33 rfl (fun h1 => ?_) (fun h1 => ?_)
  · refine lv_iload_n hx hb d_R_work_72 rfl (lv_at hl 1 rfl) ?_
    refine xj_h (D := (dC, dI)) (cl := xcl) (AA := AA) (H0 := s.heap) 6 166 (fun q9 : Int64 => [(2, .long (((M.2.2.1 27) ((M.1 112)).toNatClampNeg)).toInt64), (1, .int ((M.2.2.1 26) ((M.1 112)).toNatClampNeg)), (0, .ref (A 20))]) (fun q9 : Int64 => []) (fun q9 : Int64 => [(A 20, .inr (10, [.int (M.1 100), .ref (A 21), .ref (A 22), .ref (A 23), .ref (A 24), .ref (A 25), .int (M.1 101), .ref (A 26), .ref (A 27), .ref (A 28), .int (M.1 102), .long (M.2.1 100), .int (M.1 103), .int (M.1 104), .int (M.1 105), .int (M.1 106), .int (M.1 107), .int (M.1 108), .long (M.2.1 101), .long (M.2.1 102), .long (M.2.1 103), .int (M.1 109), .int (M.1 110), .int (M.1 111), .int (M.1 112), .int ((M.1 113) + 1), .long q9, .long (M.2.1 105), .long (M.2.1 106), .int (M.1 114), .int (M.1 115), .int (M.1 116), .int (M.1 117), .int (M.1 118), .int (M.1 119), .int (M.1 120), .int (M.1 121), .int (M.1 122), .int (M.1 123), .int (M.1 124), .long (M.2.1 107), .int (M.1 125), .ref (A 29), .ref (A 30), .ref (A 31)])), (A 26, .inl (Z 0, 12, .inl (M.2.2.1 26))), (A 27, .inl (Z 0, 12, .inl (M.2.2.1 27))), (A 28, .inl (Z 0, 12, .inl (M.2.2.1 28)))]) (fun q9 : Int64 => q9 = F_R_work_j5 M) (fun hJ3 => ?_) (fun H locs ls j2 hP hD hS hl hj2 => ?_)
    · refine lv_if_ne (tgt := 166) hx hb d_R_work_73 rfl (fun h14 => ?_) (fun h14 => ?_)
      · exact hJ3 _ _ _ (M.2.1 104) (hP.sub [0, 1, 2, 3] rfl) (hD.sub [0, 1, 2, 3] (by decide) rfl) hS (lv_sub hl [0, 1, 2] rfl) (by rw [F_R_work_j5, if_neg h14])
      · refine lv_aload_n hx hb d_R_work_76 rfl (lv_at hl 2 rfl) ?_
        refine va_get (D := (dC, dI)) (ci := 10) (v := .int ((M.1 113) + 1)) (C := "CentrifugeUnitModel") (T := xF10) (N := 45) hx hb htt xin10 hown hK hP 0 rfl rfl 25 (by decide) (htt _ tw_804) (fun _ h9 => h9) rfl d_R_work_77 ?_
        refine lv_iconst (v := 1) hx hb d_R_work_80 (by decide) ?_
        refine xj_h (D := (dC, dI)) (cl := xcl) (AA := AA) (H0 := s.heap) 6 92 (fun q9 : Int64 => [(2, .long (((M.2.2.1 27) ((M.1 112)).toNatClampNeg)).toInt64), (1, .int ((M.2.2.1 26) ((M.1 112)).toNatClampNeg)), (0, .ref (A 20))]) (fun q9 : Int64 => []) (fun q9 : Int64 => [(A 20, .inr (10, [.int (M.1 100), .ref (A 21), .ref (A 22), .ref (A 23), .ref (A 24), .ref (A 25), .int (M.1 101), .ref (A 26), .ref (A 27), .ref (A 28), .int (M.1 102), .long (M.2.1 100), .int (M.1 103), .int (M.1 104), .int (M.1 105), .int (M.1 106), .int (M.1 107), .int (M.1 108), .long (M.2.1 101), .long (M.2.1 102), .long (M.2.1 103), .int (M.1 109), .int (M.1 110), .int (M.1 111), .int (M.1 112), .int ((M.1 113) + 1), .long q9, .long (M.2.1 105), .long (M.2.1 106), .int (M.1 114), .int (M.1 115), .int (M.1 116), .int (M.1 117), .int (M.1 118), .int (M.1 119), .int (M.1 120), .int (M.1 121), .int (M.1 122), .int (M.1 123), .int (M.1 124), .long (M.2.1 107), .int (M.1 125), .ref (A 29), .ref (A 30), .ref (A 31)])), (A 26, .inl (Z 0, 12, .inl (M.2.2.1 26))), (A 27, .inl (Z 0, 12, .inl (M.2.2.1 27))), (A 28, .inl (Z 0, 12, .inl (M.2.2.1 28)))]) (fun q9 : Int64 => q9 = F_R_work_j9 M) (fun hJ16 => ?_) (fun H locs ls j15 hP hD hS hl hj15 => ?_)
        · refine lv_icmp_ne (tgt := 92) hx hb d_R_work_81 rfl (fun h22 => ?_) (fun h22 => ?_)
          · exact hJ16 _ _ _ (M.2.1 104) (hP.sub [0, 1, 2, 3] rfl) (hD.sub [0, 1, 2, 3] (by decide) rfl) hS (lv_sub hl [0, 1, 2] rfl) (by rw [F_R_work_j9, if_neg h22])
          · refine lv_aload_n hx hb d_R_work_84 rfl (lv_at hl 2 rfl) ?_
            refine lv_aload_n hx hb d_R_work_85 rfl (lv_at hl 2 rfl) ?_
            refine va_get (D := (dC, dI)) (ci := 10) (v := .long (M.2.1 103)) (C := "CentrifugeUnitModel") (T := xF10) (N := 45) hx hb htt xin10 hown hK hP 0 rfl rfl 20 (by decide) (htt _ tw_799) (fun _ h9 => h9) rfl d_R_work_86 ?_
            refine va_put (D := (dC, dI)) (ci := 10) (v := .long (M.2.1 103)) (ty := .long) (C := "CentrifugeUnitModel") (T := xF10) (N := 45) hx hb htt xin10 xT10 xTo10 xNm10 hown hK hP hD hS 0 rfl rfl 26 (by decide) (htt _ tw_805) (fun _ h9 => h9) rfl (by decide +kernel) rfl rfl (Nat.le_of_ble_eq_true rfl) d_R_work_89 (fun H locs hP hD hS => ?_)
            have hP : va_P (dC, dI) xcl [(A 20, .inr (10, [.int (M.1 100), .ref (A 21), .ref (A 22), .ref (A 23), .ref (A 24), .ref (A 25), .int (M.1 101), .ref (A 26), .ref (A 27), .ref (A 28), .int (M.1 102), .long (M.2.1 100), .int (M.1 103), .int (M.1 104), .int (M.1 105), .int (M.1 106), .int (M.1 107), .int (M.1 108), .long (M.2.1 101), .long (M.2.1 102), .long (M.2.1 103), .int (M.1 109), .int (M.1 110), .int (M.1 111), .int (M.1 112), .int ((M.1 113) + 1), .long (M.2.1 103), .long (M.2.1 105), .long (M.2.1 106), .int (M.1 114), .int (M.1 115), .int (M.1 116), .int (M.1 117), .int (M.1 118), .int (M.1 119), .int (M.1 120), .int (M.1 121), .int (M.1 122), .int (M.1 123), .int (M.1 124), .long (M.2.1 107), .int (M.1 125), .ref (A 29), .ref (A 30), .ref (A 31)])), (A 26, .inl (Z 0, 12, .inl (M.2.2.1 26))), (A 27, .inl (Z 0, 12, .inl (M.2.2.1 27))), (A 28, .inl (Z 0, 12, .inl (M.2.2.1 28)))] H := hP
            have hD : va_D AA [(A 20, .inr (10, [.int (M.1 100), .ref (A 21), .ref (A 22), .ref (A 23), .ref (A 24), .ref (A 25), .int (M.1 101), .ref (A 26), .ref (A 27), .ref (A 28), .int (M.1 102), .long (M.2.1 100), .int (M.1 103), .int (M.1 104), .int (M.1 105), .int (M.1 106), .int (M.1 107), .int (M.1 108), .long (M.2.1 101), .long (M.2.1 102), .long (M.2.1 103), .int (M.1 109), .int (M.1 110), .int (M.1 111), .int (M.1 112), .int ((M.1 113) + 1), .long (M.2.1 103), .long (M.2.1 105), .long (M.2.1 106), .int (M.1 114), .int (M.1 115), .int (M.1 116), .int (M.1 117), .int (M.1 118), .int (M.1 119), .int (M.1 120), .int (M.1 121), .int (M.1 122), .int (M.1 123), .int (M.1 124), .long (M.2.1 107), .int (M.1 125), .ref (A 29), .ref (A 30), .ref (A 31)])), (A 26, .inl (Z 0, 12, .inl (M.2.2.1 26))), (A 27, .inl (Z 0, 12, .inl (M.2.2.1 27))), (A 28, .inl (Z 0, 12, .inl (M.2.2.1 28)))] := hD
            exact hJ16 _ _ _ (M.2.1 103) (hP.sub [0, 1, 2, 3] rfl) (hD.sub [0, 1, 2, 3] (by decide) rfl) hS (lv_sub hl [0, 1, 2] rfl) (by rw [F_R_work_j9, if_pos h22])
        · refine lv_aload_n hx hb d_R_work_92 rfl (lv_at hl 2 rfl) ?_
          refine va_get (D := (dC, dI)) (ci := 10) (v := .ref (A 28)) (C := "CentrifugeUnitModel") (T := xF10) (N := 45) hx hb htt xin10 hown hK hP 0 rfl rfl 9 (by decide) (htt _ tw_788) (fun _ h9 => h9) rfl d_R_work_93 ?_
          refine lv_aload_n hx hb d_R_work_96 rfl (lv_at hl 2 rfl) ?_
          refine va_get (D := (dC, dI)) (ci := 10) (v := .int (M.1 112)) (C := "CentrifugeUnitModel") (T := xF10) (N := 45) hx hb htt xin10 hown hK hP 0 rfl rfl 24 (by decide) (htt _ tw_803) (fun _ h9 => h9) rfl d_R_work_97 ?_
          refine va_iald (D := (dC, dI)) hx hb hK hP 3 0 rfl rfl hsg d_R_work_100 ?_
          refine lv_i2l (v := (((M.2.2.1 28) ((M.1 112)).toNatClampNeg)).toInt64) hx hb d_R_work_101 rfl ?_
          refine lv_lstore (lv' := [(4, .long (((M.2.2.1 28) ((M.1 112)).toNatClampNeg)).toInt64), (2, .long (((M.2.2.1 27) ((M.1 112)).toNatClampNeg)).toInt64), (1, .int ((M.2.2.1 26) ((M.1 112)).toNatClampNeg)), (0, .ref (A 20))]) hx hb d_R_work_102 hl (by decide) rfl (fun ls hl => ?_)
          refine lv_aload_n hx hb d_R_work_104 rfl (lv_at hl 3 rfl) ?_
          refine lv_aload_n hx hb d_R_work_105 rfl (lv_at hl 3 rfl) ?_
          refine va_get (D := (dC, dI)) (ci := 10) (v := .long j15) (C := "CentrifugeUnitModel") (T := xF10) (N := 45) hx hb htt xin10 hown hK hP 0 rfl rfl 26 (by decide) (htt _ tw_805) (fun _ h9 => h9) rfl d_R_work_106 ?_
          refine lv_lload_n hx hb d_R_work_109 rfl (lv_at hl 1 rfl) ?_
          refine W.lcmp hx hb d_R_work_110 ?_
          refine xj_p 6 163 (fun q9 : Int64 => [(4, .long (((M.2.2.1 28) ((M.1 112)).toNatClampNeg)).toInt64), (2, .long (((M.2.2.1 27) ((M.1 112)).toNatClampNeg)).toInt64), (1, .int ((M.2.2.1 26) ((M.1 112)).toNatClampNeg)), (0, .ref (A 20))]) (fun q9 : Int64 => [.long q9, .ref (A 20)]) (fun q9 : Int64 => q9 = F_R_work_j11 M j15) (fun hJ18 => ?_) (fun ls j17 hl hj17 => ?_)
          · refine lv_if_ge (tgt := 140) hx hb d_R_work_111 rfl (fun h19 => ?_) (fun h19 => ?_)
            · refine lv_aload_n hx hb d_R_work_140 rfl (lv_at hl 3 rfl) ?_
              refine va_get (D := (dC, dI)) (ci := 10) (v := .long j15) (C := "CentrifugeUnitModel") (T := xF10) (N := 45) hx hb htt xin10 hown hK hP 0 rfl rfl 26 (by decide) (htt _ tw_805) (fun _ h9 => h9) rfl d_R_work_141 ?_
              refine lv_lload hx hb d_R_work_144 (lv_at hl 0 rfl) ?_
              refine lv_lsub hx hb d_R_work_146 ?_
              refine lv_lload_n hx hb d_R_work_147 rfl (lv_at hl 1 rfl) ?_
              refine W.lcmp hx hb d_R_work_148 ?_
              refine lv_if_le (tgt := 162) hx hb d_R_work_149 rfl (fun h20 => ?_) (fun h20 => ?_)
              · refine lv_lload_n hx hb d_R_work_162 rfl (lv_at hl 1 rfl) ?_
                exact hJ18 _ (((M.2.2.1 27) ((M.1 112)).toNatClampNeg)).toInt64 (lv_sub hl [0, 1, 2, 3] rfl) (by rw [F_R_work_j11, if_pos h19, if_pos h20])
              · refine lv_aload_n hx hb d_R_work_152 rfl (lv_at hl 3 rfl) ?_
                refine va_get (D := (dC, dI)) (ci := 10) (v := .long j15) (C := "CentrifugeUnitModel") (T := xF10) (N := 45) hx hb htt xin10 hown hK hP 0 rfl rfl 26 (by decide) (htt _ tw_805) (fun _ h9 => h9) rfl d_R_work_153 ?_
                refine lv_lload hx hb d_R_work_156 (lv_at hl 0 rfl) ?_
                refine lv_lsub hx hb d_R_work_158 ?_
                refine lv_goto (tgt := 163) hx hb d_R_work_159 rfl ?_
                exact hJ18 _ (j15 - (((M.2.2.1 28) ((M.1 112)).toNatClampNeg)).toInt64) (lv_sub hl [0, 1, 2, 3] rfl) (by rw [F_R_work_j11, if_pos h19, if_neg h20])
            · refine lv_aload_n hx hb d_R_work_114 rfl (lv_at hl 3 rfl) ?_
              refine va_get (D := (dC, dI)) (ci := 10) (v := .long j15) (C := "CentrifugeUnitModel") (T := xF10) (N := 45) hx hb htt xin10 hown hK hP 0 rfl rfl 26 (by decide) (htt _ tw_805) (fun _ h9 => h9) rfl d_R_work_115 ?_
              refine lv_lload hx hb d_R_work_118 (lv_at hl 0 rfl) ?_
              refine lv_ladd hx hb d_R_work_120 ?_
              refine lv_lload_n hx hb d_R_work_121 rfl (lv_at hl 1 rfl) ?_
              refine W.lcmp hx hb d_R_work_122 ?_
              refine lv_if_ge (tgt := 136) hx hb d_R_work_123 rfl (fun h21 => ?_) (fun h21 => ?_)
              · refine lv_lload_n hx hb d_R_work_136 rfl (lv_at hl 1 rfl) ?_
                refine lv_goto (tgt := 163) hx hb d_R_work_137 rfl ?_
                exact hJ18 _ (((M.2.2.1 27) ((M.1 112)).toNatClampNeg)).toInt64 (lv_sub hl [0, 1, 2, 3] rfl) (by rw [F_R_work_j11, if_neg h19, if_pos h21])
              · refine lv_aload_n hx hb d_R_work_126 rfl (lv_at hl 3 rfl) ?_
                refine va_get (D := (dC, dI)) (ci := 10) (v := .long j15) (C := "CentrifugeUnitModel") (T := xF10) (N := 45) hx hb htt xin10 hown hK hP 0 rfl rfl 26 (by decide) (htt _ tw_805) (fun _ h9 => h9) rfl d_R_work_127 ?_
                refine lv_lload hx hb d_R_work_130 (lv_at hl 0 rfl) ?_
                refine lv_ladd hx hb d_R_work_132 ?_
                refine lv_goto (tgt := 163) hx hb d_R_work_133 rfl ?_
                exact hJ18 _ (j15 + (((M.2.2.1 28) ((M.1 112)).toNatClampNeg)).toInt64) (lv_sub hl [0, 1, 2, 3] rfl) (by rw [F_R_work_j11, if_neg h19, if_neg h21])
          · refine va_put (D := (dC, dI)) (ci := 10) (v := .long j17) (ty := .long) (C := "CentrifugeUnitModel") (T := xF10) (N := 45) hx hb htt xin10 xT10 xTo10 xNm10 hown hK hP hD hS 0 rfl rfl 26 (by decide) (htt _ tw_805) (fun _ h9 => h9) rfl (by decide +kernel) rfl rfl (Nat.le_of_ble_eq_true rfl) d_R_work_163 (fun H locs hP hD hS => ?_)
            have hP : va_P (dC, dI) xcl [(A 20, .inr (10, [.int (M.1 100), .ref (A 21), .ref (A 22), .ref (A 23), .ref (A 24), .ref (A 25), .int (M.1 101), .ref (A 26), .ref (A 27), .ref (A 28), .int (M.1 102), .long (M.2.1 100), .int (M.1 103), .int (M.1 104), .int (M.1 105), .int (M.1 106), .int (M.1 107), .int (M.1 108), .long (M.2.1 101), .long (M.2.1 102), .long (M.2.1 103), .int (M.1 109), .int (M.1 110), .int (M.1 111), .int (M.1 112), .int ((M.1 113) + 1), .long j17, .long (M.2.1 105), .long (M.2.1 106), .int (M.1 114), .int (M.1 115), .int (M.1 116), .int (M.1 117), .int (M.1 118), .int (M.1 119), .int (M.1 120), .int (M.1 121), .int (M.1 122), .int (M.1 123), .int (M.1 124), .long (M.2.1 107), .int (M.1 125), .ref (A 29), .ref (A 30), .ref (A 31)])), (A 26, .inl (Z 0, 12, .inl (M.2.2.1 26))), (A 27, .inl (Z 0, 12, .inl (M.2.2.1 27))), (A 28, .inl (Z 0, 12, .inl (M.2.2.1 28)))] H := hP
            have hD : va_D AA [(A 20, .inr (10, [.int (M.1 100), .ref (A 21), .ref (A 22), .ref (A 23), .ref (A 24), .ref (A 25), .int (M.1 101), .ref (A 26), .ref (A 27), .ref (A 28), .int (M.1 102), .long (M.2.1 100), .int (M.1 103), .int (M.1 104), .int (M.1 105), .int (M.1 106), .int (M.1 107), .int (M.1 108), .long (M.2.1 101), .long (M.2.1 102), .long (M.2.1 103), .int (M.1 109), .int (M.1 110), .int (M.1 111), .int (M.1 112), .int ((M.1 113) + 1), .long j17, .long (M.2.1 105), .long (M.2.1 106), .int (M.1 114), .int (M.1 115), .int (M.1 116), .int (M.1 117), .int (M.1 118), .int (M.1 119), .int (M.1 120), .int (M.1 121), .int (M.1 122), .int (M.1 123), .int (M.1 124), .long (M.2.1 107), .int (M.1 125), .ref (A 29), .ref (A 30), .ref (A 31)])), (A 26, .inl (Z 0, 12, .inl (M.2.2.1 26))), (A 27, .inl (Z 0, 12, .inl (M.2.2.1 27))), (A 28, .inl (Z 0, 12, .inl (M.2.2.1 28)))] := hD
            exact hJ3 _ _ _ j17 (hP.sub [0, 1, 2, 3] rfl) (hD.sub [0, 1, 2, 3] (by decide) rfl) hS (lv_sub hl [1, 2, 3] rfl) (by rw [F_R_work_j5, if_pos h14, ← hj15, F_R_work_k10, ← hj17, F_R_work_k12])
    · refine lv_aload_n hx hb d_R_work_166 rfl (lv_at hl 2 rfl) ?_
      have hPc := hP.sub (ws' := [(A 20, xc20 Z A ((va_up M.1 113 ((M.1 113) + 1)), (va_up M.2.1 104 j2), M.2.2))]) [0] rfl
      have hDc := hD.sub (ws' := [(A 20, xc20 Z A ((va_up M.1 113 ((M.1 113) + 1)), (va_up M.2.1 104 j2), M.2.2))]) [0] (by decide) rfl
      refine xk_v (wc := [(A 20, xc20 Z A ((va_up M.1 113 ((M.1 113) + 1)), (va_up M.2.1 104 j2), M.2.2))]) (wr := [(A 26, .inl (Z 0, 12, .inl (M.2.2.1 26))), (A 27, .inl (Z 0, 12, .inl (M.2.2.1 27))), (A 28, .inl (Z 0, 12, .inl (M.2.2.1 28)))]) (va_runV (As := []) (rest := []) ⟨hx, hb, hml, hown, hts⟩ (c_R_steer l dC dI Z A _ ((va_up M.1 113 ((M.1 113) + 1)), (va_up M.2.1 104 j2), M.2.2)) (cwV 0 hts (xw_V _ tw_1030 tw_1032 tp_20 tw_12 tw_1033) rfl rfl rfl (by decide +kernel) ⟨Nat.le_of_ble_eq_true rfl, Nat.le_of_ble_eq_true rfl⟩) ⟨xB_blind, va_recv (q0 := 0) (ci := 10) hK hP rfl rfl, fun U hU hW => ⟨rfl, xB_at hPc hK hDc hq U hU hW⟩⟩ rfl rfl hl.1 rfl (lv_room (Nat.le_of_ble_eq_true rfl)) d_R_work_167 ⟨Nat.le_of_ble_eq_true rfl, Nat.le_of_ble_eq_true rfl⟩) hP hD hS hA [0] [1, 2, 3] rfl rfl (by decide) (by decide) (fun u4 H locs hu4 hP hD hS => ?_)
      have hP : va_P (dC, dI) xcl [(A 26, .inl (Z 0, 12, .inl (M.2.2.1 26))), (A 27, .inl (Z 0, 12, .inl (M.2.2.1 27))), (A 28, .inl (Z 0, 12, .inl (M.2.2.1 28))), (A 20, .inr (10, [.int (M.1 100), .ref (A 21), .ref (A 22), .ref (A 23), .ref (A 24), .ref (A 25), .int (M.1 101), .ref (A 26), .ref (A 27), .ref (A 28), .int (M.1 102), .long (M.2.1 100), .int (u4.1), .int (u4.2), .int (M.1 105), .int (M.1 106), .int (M.1 107), .int (M.1 108), .long (M.2.1 101), .long (M.2.1 102), .long (M.2.1 103), .int (M.1 109), .int (M.1 110), .int (M.1 111), .int (M.1 112), .int ((M.1 113) + 1), .long j2, .long (M.2.1 105), .long (M.2.1 106), .int (M.1 114), .int (M.1 115), .int (M.1 116), .int (M.1 117), .int (M.1 118), .int (M.1 119), .int (M.1 120), .int (M.1 121), .int (M.1 122), .int (M.1 123), .int (M.1 124), .long (M.2.1 107), .int (M.1 125), .ref (A 29), .ref (A 30), .ref (A 31)]))] H := hP
      have hD : va_D AA [(A 26, .inl (Z 0, 12, .inl (M.2.2.1 26))), (A 27, .inl (Z 0, 12, .inl (M.2.2.1 27))), (A 28, .inl (Z 0, 12, .inl (M.2.2.1 28))), (A 20, .inr (10, [.int (M.1 100), .ref (A 21), .ref (A 22), .ref (A 23), .ref (A 24), .ref (A 25), .int (M.1 101), .ref (A 26), .ref (A 27), .ref (A 28), .int (M.1 102), .long (M.2.1 100), .int (u4.1), .int (u4.2), .int (M.1 105), .int (M.1 106), .int (M.1 107), .int (M.1 108), .long (M.2.1 101), .long (M.2.1 102), .long (M.2.1 103), .int (M.1 109), .int (M.1 110), .int (M.1 111), .int (M.1 112), .int ((M.1 113) + 1), .long j2, .long (M.2.1 105), .long (M.2.1 106), .int (M.1 114), .int (M.1 115), .int (M.1 116), .int (M.1 117), .int (M.1 118), .int (M.1 119), .int (M.1 120), .int (M.1 121), .int (M.1 122), .int (M.1 123), .int (M.1 124), .long (M.2.1 107), .int (M.1 125), .ref (A 29), .ref (A 30), .ref (A 31)]))] := hD
      refine lv_iload_n hx hb d_R_work_170 rfl (lv_at hl 1 rfl) ?_
      refine lv_if_ne (tgt := 209) hx hb d_R_work_171 rfl (fun h5 => ?_) (fun h5 => ?_)
      · refine lv_iload_n hx hb d_R_work_209 rfl (lv_at hl 1 rfl) ?_
        refine lv_iconst (v := 1) hx hb d_R_work_210 (by decide) ?_
        refine lv_icmp_ne (tgt := 232) hx hb d_R_work_211 rfl (fun h6 => ?_) (fun h6 => ?_)
        · refine lv_iload_n hx hb d_R_work_232 rfl (lv_at hl 1 rfl) ?_
          refine lv_iconst (v := 2) hx hb d_R_work_233 (by decide) ?_
          refine lv_icmp_ne (tgt := 258) hx hb d_R_work_234 rfl (fun h7 => ?_) (fun h7 => ?_)
          · refine lv_aload_n hx hb d_R_work_258 rfl (lv_at hl 2 rfl) ?_
            refine va_get (D := (dC, dI)) (ci := 10) (v := .int (M.1 124)) (C := "CentrifugeUnitModel") (T := xF10) (N := 45) hx hb htt xin10 hown hK hP 3 rfl rfl 39 (by decide) (htt _ tw_818) (fun _ h9 => h9) rfl d_R_work_259 ?_
            refine lv_i2l (v := ((M.1 124)).toInt64) hx hb d_R_work_262 rfl ?_
            refine lv_lload_n hx hb d_R_work_263 rfl (lv_at hl 0 rfl) ?_
            refine W.lcmp hx hb d_R_work_264 ?_
            refine lv_if_gt (tgt := 272) hx hb d_R_work_265 rfl (fun h8 => ?_) (fun h8 => ?_)
            · refine lv_iconst (v := 0) hx hb d_R_work_272 (by decide) ?_
              have hP9 := hP.sub (ws' := [(A 20, xc20 Z A (ap_R_work M (((M.1 113) + 1), j2, (u4.1), (u4.2)))), (A 26, xc26 Z A (ap_R_work M (((M.1 113) + 1), j2, (u4.1), (u4.2)))), (A 27, xc27 Z A (ap_R_work M (((M.1 113) + 1), j2, (u4.1), (u4.2)))), (A 28, xc28 Z A (ap_R_work M (((M.1 113) + 1), j2, (u4.1), (u4.2))))]) [3, 0, 1, 2] rfl
              have hD9 := hD.sub (ws' := [(A 20, xc20 Z A (ap_R_work M (((M.1 113) + 1), j2, (u4.1), (u4.2)))), (A 26, xc26 Z A (ap_R_work M (((M.1 113) + 1), j2, (u4.1), (u4.2)))), (A 27, xc27 Z A (ap_R_work M (((M.1 113) + 1), j2, (u4.1), (u4.2)))), (A 28, xc28 Z A (ap_R_work M (((M.1 113) + 1), j2, (u4.1), (u4.2))))]) [3, 0, 1, 2] (by decide) rfl
              exact W.zret (ty := .boolean) hx hb hr rfl (fun t ht hW => ⟨⟨0, (((M.1 113) + 1), j2, (u4.1), (u4.2)), rfl, (by rw [F_R_work, if_neg h1, ← hj2, F_R_work_k6, ← hu4, F_R_work_k7, if_neg h5, if_neg h6, if_neg h7, if_pos h8]), xE_at hP9 hK hD9 ht hW⟩, hS.F ht⟩) hS.2.2 d_R_work_273
            · refine lv_iconst (v := 1) hx hb d_R_work_268 (by decide) ?_
              refine lv_goto (tgt := 273) hx hb d_R_work_269 rfl ?_
              have hP9 := hP.sub (ws' := [(A 20, xc20 Z A (ap_R_work M (((M.1 113) + 1), j2, (u4.1), (u4.2)))), (A 26, xc26 Z A (ap_R_work M (((M.1 113) + 1), j2, (u4.1), (u4.2)))), (A 27, xc27 Z A (ap_R_work M (((M.1 113) + 1), j2, (u4.1), (u4.2)))), (A 28, xc28 Z A (ap_R_work M (((M.1 113) + 1), j2, (u4.1), (u4.2))))]) [3, 0, 1, 2] rfl
              have hD9 := hD.sub (ws' := [(A 20, xc20 Z A (ap_R_work M (((M.1 113) + 1), j2, (u4.1), (u4.2)))), (A 26, xc26 Z A (ap_R_work M (((M.1 113) + 1), j2, (u4.1), (u4.2)))), (A 27, xc27 Z A (ap_R_work M (((M.1 113) + 1), j2, (u4.1), (u4.2)))), (A 28, xc28 Z A (ap_R_work M (((M.1 113) + 1), j2, (u4.1), (u4.2))))]) [3, 0, 1, 2] (by decide) rfl
              exact W.zret (ty := .boolean) hx hb hr rfl (fun t ht hW => ⟨⟨1, (((M.1 113) + 1), j2, (u4.1), (u4.2)), rfl, (by rw [F_R_work, if_neg h1, ← hj2, F_R_work_k6, ← hu4, F_R_work_k7, if_neg h5, if_neg h6, if_neg h7, if_neg h8]), xE_at hP9 hK hD9 ht hW⟩, hS.F ht⟩) hS.2.2 d_R_work_273
          · refine lv_aload_n hx hb d_R_work_237 rfl (lv_at hl 2 rfl) ?_
            refine va_get (D := (dC, dI)) (ci := 10) (v := .long (M.2.1 105)) (C := "CentrifugeUnitModel") (T := xF10) (N := 45) hx hb htt xin10 hown hK hP 3 rfl rfl 27 (by decide) (htt _ tw_806) (fun _ h9 => h9) rfl d_R_work_238 ?_
            refine lv_ldc2 (v := 1000000000) hx hb hown (htt _ tw_1036) d_R_work_241 ?_
            refine lv_lload_n hx hb d_R_work_244 rfl (lv_at hl 0 rfl) ?_
            refine lv_lmul hx hb d_R_work_245 ?_
            refine W.lcmp hx hb d_R_work_246 ?_
            refine lv_if_lt (tgt := 254) hx hb d_R_work_247 rfl (fun h9 => ?_) (fun h9 => ?_)
            · refine lv_iconst (v := 0) hx hb d_R_work_254 (by decide) ?_
              refine lv_goto (tgt := 273) hx hb d_R_work_255 rfl ?_
              have hP9 := hP.sub (ws' := [(A 20, xc20 Z A (ap_R_work M (((M.1 113) + 1), j2, (u4.1), (u4.2)))), (A 26, xc26 Z A (ap_R_work M (((M.1 113) + 1), j2, (u4.1), (u4.2)))), (A 27, xc27 Z A (ap_R_work M (((M.1 113) + 1), j2, (u4.1), (u4.2)))), (A 28, xc28 Z A (ap_R_work M (((M.1 113) + 1), j2, (u4.1), (u4.2))))]) [3, 0, 1, 2] rfl
              have hD9 := hD.sub (ws' := [(A 20, xc20 Z A (ap_R_work M (((M.1 113) + 1), j2, (u4.1), (u4.2)))), (A 26, xc26 Z A (ap_R_work M (((M.1 113) + 1), j2, (u4.1), (u4.2)))), (A 27, xc27 Z A (ap_R_work M (((M.1 113) + 1), j2, (u4.1), (u4.2)))), (A 28, xc28 Z A (ap_R_work M (((M.1 113) + 1), j2, (u4.1), (u4.2))))]) [3, 0, 1, 2] (by decide) rfl
              exact W.zret (ty := .boolean) hx hb hr rfl (fun t ht hW => ⟨⟨0, (((M.1 113) + 1), j2, (u4.1), (u4.2)), rfl, (by rw [F_R_work, if_neg h1, ← hj2, F_R_work_k6, ← hu4, F_R_work_k7, if_neg h5, if_neg h6, if_pos h7, if_pos h9]), xE_at hP9 hK hD9 ht hW⟩, hS.F ht⟩) hS.2.2 d_R_work_273
            · refine lv_iconst (v := 1) hx hb d_R_work_250 (by decide) ?_
              refine lv_goto (tgt := 273) hx hb d_R_work_251 rfl ?_
              have hP9 := hP.sub (ws' := [(A 20, xc20 Z A (ap_R_work M (((M.1 113) + 1), j2, (u4.1), (u4.2)))), (A 26, xc26 Z A (ap_R_work M (((M.1 113) + 1), j2, (u4.1), (u4.2)))), (A 27, xc27 Z A (ap_R_work M (((M.1 113) + 1), j2, (u4.1), (u4.2)))), (A 28, xc28 Z A (ap_R_work M (((M.1 113) + 1), j2, (u4.1), (u4.2))))]) [3, 0, 1, 2] rfl
              have hD9 := hD.sub (ws' := [(A 20, xc20 Z A (ap_R_work M (((M.1 113) + 1), j2, (u4.1), (u4.2)))), (A 26, xc26 Z A (ap_R_work M (((M.1 113) + 1), j2, (u4.1), (u4.2)))), (A 27, xc27 Z A (ap_R_work M (((M.1 113) + 1), j2, (u4.1), (u4.2)))), (A 28, xc28 Z A (ap_R_work M (((M.1 113) + 1), j2, (u4.1), (u4.2))))]) [3, 0, 1, 2] (by decide) rfl
              exact W.zret (ty := .boolean) hx hb hr rfl (fun t ht hW => ⟨⟨1, (((M.1 113) + 1), j2, (u4.1), (u4.2)), rfl, (by rw [F_R_work, if_neg h1, ← hj2, F_R_work_k6, ← hu4, F_R_work_k7, if_neg h5, if_neg h6, if_pos h7, if_neg h9]), xE_at hP9 hK hD9 ht hW⟩, hS.F ht⟩) hS.2.2 d_R_work_273
        · refine lv_aload_n hx hb d_R_work_214 rfl (lv_at hl 2 rfl) ?_
          refine va_get (D := (dC, dI)) (ci := 10) (v := .int ((M.1 113) + 1)) (C := "CentrifugeUnitModel") (T := xF10) (N := 45) hx hb htt xin10 hown hK hP 3 rfl rfl 25 (by decide) (htt _ tw_804) (fun _ h9 => h9) rfl d_R_work_215 ?_
          refine lv_i2l (v := (((M.1 113) + 1)).toInt64) hx hb d_R_work_218 rfl ?_
          refine lv_lload_n hx hb d_R_work_219 rfl (lv_at hl 0 rfl) ?_
          refine W.lcmp hx hb d_R_work_220 ?_
          refine lv_if_ne (tgt := 228) hx hb d_R_work_221 rfl (fun h10 => ?_) (fun h10 => ?_)
          · refine lv_iconst (v := 0) hx hb d_R_work_228 (by decide) ?_
            refine lv_goto (tgt := 273) hx hb d_R_work_229 rfl ?_
            have hP9 := hP.sub (ws' := [(A 20, xc20 Z A (ap_R_work M (((M.1 113) + 1), j2, (u4.1), (u4.2)))), (A 26, xc26 Z A (ap_R_work M (((M.1 113) + 1), j2, (u4.1), (u4.2)))), (A 27, xc27 Z A (ap_R_work M (((M.1 113) + 1), j2, (u4.1), (u4.2)))), (A 28, xc28 Z A (ap_R_work M (((M.1 113) + 1), j2, (u4.1), (u4.2))))]) [3, 0, 1, 2] rfl
            have hD9 := hD.sub (ws' := [(A 20, xc20 Z A (ap_R_work M (((M.1 113) + 1), j2, (u4.1), (u4.2)))), (A 26, xc26 Z A (ap_R_work M (((M.1 113) + 1), j2, (u4.1), (u4.2)))), (A 27, xc27 Z A (ap_R_work M (((M.1 113) + 1), j2, (u4.1), (u4.2)))), (A 28, xc28 Z A (ap_R_work M (((M.1 113) + 1), j2, (u4.1), (u4.2))))]) [3, 0, 1, 2] (by decide) rfl
            exact W.zret (ty := .boolean) hx hb hr rfl (fun t ht hW => ⟨⟨0, (((M.1 113) + 1), j2, (u4.1), (u4.2)), rfl, (by rw [F_R_work, if_neg h1, ← hj2, F_R_work_k6, ← hu4, F_R_work_k7, if_neg h5, if_pos h6, if_neg h10]), xE_at hP9 hK hD9 ht hW⟩, hS.F ht⟩) hS.2.2 d_R_work_273
          · refine lv_iconst (v := 1) hx hb d_R_work_224 (by decide) ?_
            refine lv_goto (tgt := 273) hx hb d_R_work_225 rfl ?_
            have hP9 := hP.sub (ws' := [(A 20, xc20 Z A (ap_R_work M (((M.1 113) + 1), j2, (u4.1), (u4.2)))), (A 26, xc26 Z A (ap_R_work M (((M.1 113) + 1), j2, (u4.1), (u4.2)))), (A 27, xc27 Z A (ap_R_work M (((M.1 113) + 1), j2, (u4.1), (u4.2)))), (A 28, xc28 Z A (ap_R_work M (((M.1 113) + 1), j2, (u4.1), (u4.2))))]) [3, 0, 1, 2] rfl
            have hD9 := hD.sub (ws' := [(A 20, xc20 Z A (ap_R_work M (((M.1 113) + 1), j2, (u4.1), (u4.2)))), (A 26, xc26 Z A (ap_R_work M (((M.1 113) + 1), j2, (u4.1), (u4.2)))), (A 27, xc27 Z A (ap_R_work M (((M.1 113) + 1), j2, (u4.1), (u4.2)))), (A 28, xc28 Z A (ap_R_work M (((M.1 113) + 1), j2, (u4.1), (u4.2))))]) [3, 0, 1, 2] (by decide) rfl
            exact W.zret (ty := .boolean) hx hb hr rfl (fun t ht hW => ⟨⟨1, (((M.1 113) + 1), j2, (u4.1), (u4.2)), rfl, (by rw [F_R_work, if_neg h1, ← hj2, F_R_work_k6, ← hu4, F_R_work_k7, if_neg h5, if_pos h6, if_pos h10]), xE_at hP9 hK hD9 ht hW⟩, hS.F ht⟩) hS.2.2 d_R_work_273
      · refine lv_aload_n hx hb d_R_work_174 rfl (lv_at hl 2 rfl) ?_
        refine va_get (D := (dC, dI)) (ci := 10) (v := .long j2) (C := "CentrifugeUnitModel") (T := xF10) (N := 45) hx hb htt xin10 hown hK hP 3 rfl rfl 26 (by decide) (htt _ tw_805) (fun _ h9 => h9) rfl d_R_work_175 ?_
        refine lv_lload_n hx hb d_R_work_178 rfl (lv_at hl 0 rfl) ?_
        refine W.lcmp hx hb d_R_work_179 ?_
        refine lv_if_ne (tgt := 207) hx hb d_R_work_180 rfl (fun h11 => ?_) (fun h11 => ?_)
        · refine lv_iconst (v := 0) hx hb d_R_work_207 (by decide) ?_
          have hP9 := hP.sub (ws' := [(A 20, xc20 Z A (ap_R_work M (((M.1 113) + 1), j2, (u4.1), (u4.2)))), (A 26, xc26 Z A (ap_R_work M (((M.1 113) + 1), j2, (u4.1), (u4.2)))), (A 27, xc27 Z A (ap_R_work M (((M.1 113) + 1), j2, (u4.1), (u4.2)))), (A 28, xc28 Z A (ap_R_work M (((M.1 113) + 1), j2, (u4.1), (u4.2))))]) [3, 0, 1, 2] rfl
          have hD9 := hD.sub (ws' := [(A 20, xc20 Z A (ap_R_work M (((M.1 113) + 1), j2, (u4.1), (u4.2)))), (A 26, xc26 Z A (ap_R_work M (((M.1 113) + 1), j2, (u4.1), (u4.2)))), (A 27, xc27 Z A (ap_R_work M (((M.1 113) + 1), j2, (u4.1), (u4.2)))), (A 28, xc28 Z A (ap_R_work M (((M.1 113) + 1), j2, (u4.1), (u4.2))))]) [3, 0, 1, 2] (by decide) rfl
          exact W.zret (ty := .boolean) hx hb hr rfl (fun t ht hW => ⟨⟨0, (((M.1 113) + 1), j2, (u4.1), (u4.2)), rfl, (by rw [F_R_work, if_neg h1, ← hj2, F_R_work_k6, ← hu4, F_R_work_k7, if_pos h5, if_neg h11]), xE_at hP9 hK hD9 ht hW⟩, hS.F ht⟩) hS.2.2 d_R_work_208
        · refine lv_aload_n hx hb d_R_work_183 rfl (lv_at hl 2 rfl) ?_
          refine va_get (D := (dC, dI)) (ci := 10) (v := .long (M.2.1 103)) (C := "CentrifugeUnitModel") (T := xF10) (N := 45) hx hb htt xin10 hown hK hP 3 rfl rfl 20 (by decide) (htt _ tw_799) (fun _ h9 => h9) rfl d_R_work_184 ?_
          refine lv_lload_n hx hb d_R_work_187 rfl (lv_at hl 0 rfl) ?_
          refine lv_ldc2 (v := 100) hx hb hown (htt _ tw_931) d_R_work_188 ?_
          refine lv_lsub hx hb d_R_work_191 ?_
          refine lv_lload_n hx hb d_R_work_192 rfl (lv_at hl 0 rfl) ?_
          refine lv_ldc2 (v := 100) hx hb hown (htt _ tw_931) d_R_work_193 ?_
          refine lv_ladd hx hb d_R_work_196 ?_
          have hPc := hP.sub (ws' := []) [] rfl
          have hDc := hD.sub (ws' := []) [] (by decide) rfl
          refine xk_p (va_runS (As := [.long (M.2.1 103), .long ((((M.2.2.1 27) ((M.1 112)).toNatClampNeg)).toInt64 - 100), .long ((((M.2.2.1 27) ((M.1 112)).toNatClampNeg)).toInt64 + 100)]) (rest := []) ⟨hx, hb, hml, hown, hts⟩ (c_R_in l dC dI Z A _ M (M.2.1 103) ((((M.2.2.1 27) ((M.1 112)).toNatClampNeg)).toInt64 - 100) ((((M.2.2.1 27) ((M.1 112)).toNatClampNeg)).toInt64 + 100)) (va_cwS 3 hts (xw_S _ tw_925 tw_926 tw_12 tw_927) rfl rfl rfl (by decide +kernel) ⟨Nat.le_of_ble_eq_true rfl, Nat.le_of_ble_eq_true rfl⟩) ⟨xB_blind, fun U hU hW => ⟨rfl, xB_at hPc hK hDc hq U hU hW⟩⟩ rfl rfl hl.1 rfl (lv_room (Nat.le_of_ble_eq_true rfl)) d_R_work_197 ⟨Nat.le_of_ble_eq_true rfl, Nat.le_of_ble_eq_true rfl⟩) ?_
          refine lv_topi (fun z12 hz12 => ?_)
          refine lv_if_eq (tgt := 207) hx hb d_R_work_200 rfl (fun h13 => ?_) (fun h13 => ?_)
          · refine lv_iconst (v := 0) hx hb d_R_work_207 (by decide) ?_
            have hP9 := hP.sub (ws' := [(A 20, xc20 Z A (ap_R_work M (((M.1 113) + 1), j2, (u4.1), (u4.2)))), (A 26, xc26 Z A (ap_R_work M (((M.1 113) + 1), j2, (u4.1), (u4.2)))), (A 27, xc27 Z A (ap_R_work M (((M.1 113) + 1), j2, (u4.1), (u4.2)))), (A 28, xc28 Z A (ap_R_work M (((M.1 113) + 1), j2, (u4.1), (u4.2))))]) [3, 0, 1, 2] rfl
            have hD9 := hD.sub (ws' := [(A 20, xc20 Z A (ap_R_work M (((M.1 113) + 1), j2, (u4.1), (u4.2)))), (A 26, xc26 Z A (ap_R_work M (((M.1 113) + 1), j2, (u4.1), (u4.2)))), (A 27, xc27 Z A (ap_R_work M (((M.1 113) + 1), j2, (u4.1), (u4.2)))), (A 28, xc28 Z A (ap_R_work M (((M.1 113) + 1), j2, (u4.1), (u4.2))))]) [3, 0, 1, 2] (by decide) rfl
            exact W.zret (ty := .boolean) hx hb hr rfl (fun t ht hW => ⟨⟨0, (((M.1 113) + 1), j2, (u4.1), (u4.2)), rfl, (by rw [F_R_work, if_neg h1, ← hj2, F_R_work_k6, ← hu4, F_R_work_k7, if_pos h5, if_pos h11, ← hz12, F_R_work_k8, if_pos h13]), xE_at hP9 hK hD9 ht hW⟩, hS.F ht⟩) hS.2.2 d_R_work_208
          · refine lv_iconst (v := 1) hx hb d_R_work_203 (by decide) ?_
            refine lv_goto (tgt := 208) hx hb d_R_work_204 rfl ?_
            have hP9 := hP.sub (ws' := [(A 20, xc20 Z A (ap_R_work M (((M.1 113) + 1), j2, (u4.1), (u4.2)))), (A 26, xc26 Z A (ap_R_work M (((M.1 113) + 1), j2, (u4.1), (u4.2)))), (A 27, xc27 Z A (ap_R_work M (((M.1 113) + 1), j2, (u4.1), (u4.2)))), (A 28, xc28 Z A (ap_R_work M (((M.1 113) + 1), j2, (u4.1), (u4.2))))]) [3, 0, 1, 2] rfl
            have hD9 := hD.sub (ws' := [(A 20, xc20 Z A (ap_R_work M (((M.1 113) + 1), j2, (u4.1), (u4.2)))), (A 26, xc26 Z A (ap_R_work M (((M.1 113) + 1), j2, (u4.1), (u4.2)))), (A 27, xc27 Z A (ap_R_work M (((M.1 113) + 1), j2, (u4.1), (u4.2)))), (A 28, xc28 Z A (ap_R_work M (((M.1 113) + 1), j2, (u4.1), (u4.2))))]) [3, 0, 1, 2] (by decide) rfl
            exact W.zret (ty := .boolean) hx hb hr rfl (fun t ht hW => ⟨⟨1, (((M.1 113) + 1), j2, (u4.1), (u4.2)), rfl, (by rw [F_R_work, if_neg h1, ← hj2, F_R_work_k6, ← hu4, F_R_work_k7, if_pos h5, if_pos h11, ← hz12, F_R_work_k8, if_neg h13]), xE_at hP9 hK hD9 ht hW⟩, hS.F ht⟩) hS.2.2 d_R_work_208
  · refine lv_aload_n hx hb d_R_work_36 rfl (lv_at hl 2 rfl) ?_
    refine lv_iconst (v := 0) hx hb d_R_work_37 (by decide) ?_
    refine va_put (D := (dC, dI)) (ci := 10) (v := .int 0) (ty := .int) (C := "CentrifugeUnitModel") (T := xF10) (N := 45) hx hb htt xin10 xT10 xTo10 xNm10 hown hK hP hD hS 0 rfl rfl 12 (by decide) (htt _ tw_791) (fun _ h9 => h9) rfl (by decide +kernel) rfl rfl (Nat.le_of_ble_eq_true rfl) d_R_work_38 (fun H locs hP hD hS => ?_)
    have hP : va_P (dC, dI) xcl [(A 20, .inr (10, [.int (M.1 100), .ref (A 21), .ref (A 22), .ref (A 23), .ref (A 24), .ref (A 25), .int (M.1 101), .ref (A 26), .ref (A 27), .ref (A 28), .int (M.1 102), .long (M.2.1 100), .int 0, .int (M.1 104), .int (M.1 105), .int (M.1 106), .int (M.1 107), .int (M.1 108), .long (M.2.1 101), .long (M.2.1 102), .long (M.2.1 103), .int (M.1 109), .int (M.1 110), .int (M.1 111), .int (M.1 112), .int ((M.1 113) + 1), .long (M.2.1 104), .long (M.2.1 105), .long (M.2.1 106), .int (M.1 114), .int (M.1 115), .int (M.1 116), .int (M.1 117), .int (M.1 118), .int (M.1 119), .int (M.1 120), .int (M.1 121), .int (M.1 122), .int (M.1 123), .int (M.1 124), .long (M.2.1 107), .int (M.1 125), .ref (A 29), .ref (A 30), .ref (A 31)])), (A 26, .inl (Z 0, 12, .inl (M.2.2.1 26))), (A 27, .inl (Z 0, 12, .inl (M.2.2.1 27))), (A 28, .inl (Z 0, 12, .inl (M.2.2.1 28)))] H := hP
    have hD : va_D AA [(A 20, .inr (10, [.int (M.1 100), .ref (A 21), .ref (A 22), .ref (A 23), .ref (A 24), .ref (A 25), .int (M.1 101), .ref (A 26), .ref (A 27), .ref (A 28), .int (M.1 102), .long (M.2.1 100), .int 0, .int (M.1 104), .int (M.1 105), .int (M.1 106), .int (M.1 107), .int (M.1 108), .long (M.2.1 101), .long (M.2.1 102), .long (M.2.1 103), .int (M.1 109), .int (M.1 110), .int (M.1 111), .int (M.1 112), .int ((M.1 113) + 1), .long (M.2.1 104), .long (M.2.1 105), .long (M.2.1 106), .int (M.1 114), .int (M.1 115), .int (M.1 116), .int (M.1 117), .int (M.1 118), .int (M.1 119), .int (M.1 120), .int (M.1 121), .int (M.1 122), .int (M.1 123), .int (M.1 124), .long (M.2.1 107), .int (M.1 125), .ref (A 29), .ref (A 30), .ref (A 31)])), (A 26, .inl (Z 0, 12, .inl (M.2.2.1 26))), (A 27, .inl (Z 0, 12, .inl (M.2.2.1 27))), (A 28, .inl (Z 0, 12, .inl (M.2.2.1 28)))] := hD
    refine lv_aload_n hx hb d_R_work_41 rfl (lv_at hl 2 rfl) ?_
    refine lv_aload_n hx hb d_R_work_42 rfl (lv_at hl 2 rfl) ?_
    refine va_get (D := (dC, dI)) (ci := 10) (v := .ref (A 28)) (C := "CentrifugeUnitModel") (T := xF10) (N := 45) hx hb htt xin10 hown hK hP 0 rfl rfl 9 (by decide) (htt _ tw_788) (fun _ h9 => h9) rfl d_R_work_43 ?_
    refine lv_aload_n hx hb d_R_work_46 rfl (lv_at hl 2 rfl) ?_
    refine va_get (D := (dC, dI)) (ci := 10) (v := .int (M.1 112)) (C := "CentrifugeUnitModel") (T := xF10) (N := 45) hx hb htt xin10 hown hK hP 0 rfl rfl 24 (by decide) (htt _ tw_803) (fun _ h9 => h9) rfl d_R_work_47 ?_
    refine va_iald (D := (dC, dI)) hx hb hK hP 3 0 rfl rfl hsg d_R_work_50 ?_
    refine va_put (D := (dC, dI)) (ci := 10) (v := .int ((M.2.2.1 28) ((M.1 112)).toNatClampNeg)) (ty := .int) (C := "CentrifugeUnitModel") (T := xF10) (N := 45) hx hb htt xin10 xT10 xTo10 xNm10 hown hK hP hD hS 0 rfl rfl 13 (by decide) (htt _ tw_792) (fun _ h9 => h9) rfl (by decide +kernel) rfl rfl (Nat.le_of_ble_eq_true rfl) d_R_work_51 (fun H locs hP hD hS => ?_)
    have hP : va_P (dC, dI) xcl [(A 20, .inr (10, [.int (M.1 100), .ref (A 21), .ref (A 22), .ref (A 23), .ref (A 24), .ref (A 25), .int (M.1 101), .ref (A 26), .ref (A 27), .ref (A 28), .int (M.1 102), .long (M.2.1 100), .int 0, .int ((M.2.2.1 28) ((M.1 112)).toNatClampNeg), .int (M.1 105), .int (M.1 106), .int (M.1 107), .int (M.1 108), .long (M.2.1 101), .long (M.2.1 102), .long (M.2.1 103), .int (M.1 109), .int (M.1 110), .int (M.1 111), .int (M.1 112), .int ((M.1 113) + 1), .long (M.2.1 104), .long (M.2.1 105), .long (M.2.1 106), .int (M.1 114), .int (M.1 115), .int (M.1 116), .int (M.1 117), .int (M.1 118), .int (M.1 119), .int (M.1 120), .int (M.1 121), .int (M.1 122), .int (M.1 123), .int (M.1 124), .long (M.2.1 107), .int (M.1 125), .ref (A 29), .ref (A 30), .ref (A 31)])), (A 26, .inl (Z 0, 12, .inl (M.2.2.1 26))), (A 27, .inl (Z 0, 12, .inl (M.2.2.1 27))), (A 28, .inl (Z 0, 12, .inl (M.2.2.1 28)))] H := hP
    have hD : va_D AA [(A 20, .inr (10, [.int (M.1 100), .ref (A 21), .ref (A 22), .ref (A 23), .ref (A 24), .ref (A 25), .int (M.1 101), .ref (A 26), .ref (A 27), .ref (A 28), .int (M.1 102), .long (M.2.1 100), .int 0, .int ((M.2.2.1 28) ((M.1 112)).toNatClampNeg), .int (M.1 105), .int (M.1 106), .int (M.1 107), .int (M.1 108), .long (M.2.1 101), .long (M.2.1 102), .long (M.2.1 103), .int (M.1 109), .int (M.1 110), .int (M.1 111), .int (M.1 112), .int ((M.1 113) + 1), .long (M.2.1 104), .long (M.2.1 105), .long (M.2.1 106), .int (M.1 114), .int (M.1 115), .int (M.1 116), .int (M.1 117), .int (M.1 118), .int (M.1 119), .int (M.1 120), .int (M.1 121), .int (M.1 122), .int (M.1 123), .int (M.1 124), .long (M.2.1 107), .int (M.1 125), .ref (A 29), .ref (A 30), .ref (A 31)])), (A 26, .inl (Z 0, 12, .inl (M.2.2.1 26))), (A 27, .inl (Z 0, 12, .inl (M.2.2.1 27))), (A 28, .inl (Z 0, 12, .inl (M.2.2.1 28)))] := hD
    refine lv_aload_n hx hb d_R_work_54 rfl (lv_at hl 2 rfl) ?_
    refine va_get (D := (dC, dI)) (ci := 10) (v := .long (M.2.1 103)) (C := "CentrifugeUnitModel") (T := xF10) (N := 45) hx hb htt xin10 hown hK hP 0 rfl rfl 20 (by decide) (htt _ tw_799) (fun _ h9 => h9) rfl d_R_work_55 ?_
    refine lv_lload_n hx hb d_R_work_58 rfl (lv_at hl 0 rfl) ?_
    refine W.lcmp hx hb d_R_work_59 ?_
    refine lv_if_le (tgt := 65) hx hb d_R_work_60 rfl (fun h23 => ?_) (fun h23 => ?_)
    · refine lv_aload_n hx hb d_R_work_65 rfl (lv_at hl 2 rfl) ?_
      refine lv_lload_n hx hb d_R_work_66 rfl (lv_at hl 0 rfl) ?_
      refine va_put (D := (dC, dI)) (ci := 10) (v := .long (((M.2.2.1 27) ((M.1 112)).toNatClampNeg)).toInt64) (ty := .long) (C := "CentrifugeUnitModel") (T := xF10) (N := 45) hx hb htt xin10 xT10 xTo10 xNm10 hown hK hP hD hS 0 rfl rfl 26 (by decide) (htt _ tw_805) (fun _ h9 => h9) rfl (by decide +kernel) rfl rfl (Nat.le_of_ble_eq_true rfl) d_R_work_67 (fun H locs hP hD hS => ?_)
      have hP : va_P (dC, dI) xcl [(A 20, .inr (10, [.int (M.1 100), .ref (A 21), .ref (A 22), .ref (A 23), .ref (A 24), .ref (A 25), .int (M.1 101), .ref (A 26), .ref (A 27), .ref (A 28), .int (M.1 102), .long (M.2.1 100), .int 0, .int ((M.2.2.1 28) ((M.1 112)).toNatClampNeg), .int (M.1 105), .int (M.1 106), .int (M.1 107), .int (M.1 108), .long (M.2.1 101), .long (M.2.1 102), .long (M.2.1 103), .int (M.1 109), .int (M.1 110), .int (M.1 111), .int (M.1 112), .int ((M.1 113) + 1), .long (((M.2.2.1 27) ((M.1 112)).toNatClampNeg)).toInt64, .long (M.2.1 105), .long (M.2.1 106), .int (M.1 114), .int (M.1 115), .int (M.1 116), .int (M.1 117), .int (M.1 118), .int (M.1 119), .int (M.1 120), .int (M.1 121), .int (M.1 122), .int (M.1 123), .int (M.1 124), .long (M.2.1 107), .int (M.1 125), .ref (A 29), .ref (A 30), .ref (A 31)])), (A 26, .inl (Z 0, 12, .inl (M.2.2.1 26))), (A 27, .inl (Z 0, 12, .inl (M.2.2.1 27))), (A 28, .inl (Z 0, 12, .inl (M.2.2.1 28)))] H := hP
      have hD : va_D AA [(A 20, .inr (10, [.int (M.1 100), .ref (A 21), .ref (A 22), .ref (A 23), .ref (A 24), .ref (A 25), .int (M.1 101), .ref (A 26), .ref (A 27), .ref (A 28), .int (M.1 102), .long (M.2.1 100), .int 0, .int ((M.2.2.1 28) ((M.1 112)).toNatClampNeg), .int (M.1 105), .int (M.1 106), .int (M.1 107), .int (M.1 108), .long (M.2.1 101), .long (M.2.1 102), .long (M.2.1 103), .int (M.1 109), .int (M.1 110), .int (M.1 111), .int (M.1 112), .int ((M.1 113) + 1), .long (((M.2.2.1 27) ((M.1 112)).toNatClampNeg)).toInt64, .long (M.2.1 105), .long (M.2.1 106), .int (M.1 114), .int (M.1 115), .int (M.1 116), .int (M.1 117), .int (M.1 118), .int (M.1 119), .int (M.1 120), .int (M.1 121), .int (M.1 122), .int (M.1 123), .int (M.1 124), .long (M.2.1 107), .int (M.1 125), .ref (A 29), .ref (A 30), .ref (A 31)])), (A 26, .inl (Z 0, 12, .inl (M.2.2.1 26))), (A 27, .inl (Z 0, 12, .inl (M.2.2.1 27))), (A 28, .inl (Z 0, 12, .inl (M.2.2.1 28)))] := hD
      refine lv_iconst (v := 1) hx hb d_R_work_70 (by decide) ?_
      have hP9 := hP.sub (ws' := [(A 20, xc20 Z A (ap_R_work M (((M.1 113) + 1), (((M.2.2.1 27) ((M.1 112)).toNatClampNeg)).toInt64, 0, ((M.2.2.1 28) ((M.1 112)).toNatClampNeg)))), (A 26, xc26 Z A (ap_R_work M (((M.1 113) + 1), (((M.2.2.1 27) ((M.1 112)).toNatClampNeg)).toInt64, 0, ((M.2.2.1 28) ((M.1 112)).toNatClampNeg)))), (A 27, xc27 Z A (ap_R_work M (((M.1 113) + 1), (((M.2.2.1 27) ((M.1 112)).toNatClampNeg)).toInt64, 0, ((M.2.2.1 28) ((M.1 112)).toNatClampNeg)))), (A 28, xc28 Z A (ap_R_work M (((M.1 113) + 1), (((M.2.2.1 27) ((M.1 112)).toNatClampNeg)).toInt64, 0, ((M.2.2.1 28) ((M.1 112)).toNatClampNeg))))]) [0, 1, 2, 3] rfl
      have hD9 := hD.sub (ws' := [(A 20, xc20 Z A (ap_R_work M (((M.1 113) + 1), (((M.2.2.1 27) ((M.1 112)).toNatClampNeg)).toInt64, 0, ((M.2.2.1 28) ((M.1 112)).toNatClampNeg)))), (A 26, xc26 Z A (ap_R_work M (((M.1 113) + 1), (((M.2.2.1 27) ((M.1 112)).toNatClampNeg)).toInt64, 0, ((M.2.2.1 28) ((M.1 112)).toNatClampNeg)))), (A 27, xc27 Z A (ap_R_work M (((M.1 113) + 1), (((M.2.2.1 27) ((M.1 112)).toNatClampNeg)).toInt64, 0, ((M.2.2.1 28) ((M.1 112)).toNatClampNeg)))), (A 28, xc28 Z A (ap_R_work M (((M.1 113) + 1), (((M.2.2.1 27) ((M.1 112)).toNatClampNeg)).toInt64, 0, ((M.2.2.1 28) ((M.1 112)).toNatClampNeg))))]) [0, 1, 2, 3] (by decide) rfl
      exact W.zret (ty := .boolean) hx hb hr rfl (fun t ht hW => ⟨⟨1, (((M.1 113) + 1), (((M.2.2.1 27) ((M.1 112)).toNatClampNeg)).toInt64, 0, ((M.2.2.1 28) ((M.1 112)).toNatClampNeg)), rfl, (by rw [F_R_work, if_pos h1, if_pos h23]), xE_at hP9 hK hD9 ht hW⟩, hS.F ht⟩) hS.2.2 d_R_work_71
    · refine lv_iconst (v := 0) hx hb d_R_work_63 (by decide) ?_
      have hP9 := hP.sub (ws' := [(A 20, xc20 Z A (ap_R_work M (((M.1 113) + 1), (M.2.1 104), 0, ((M.2.2.1 28) ((M.1 112)).toNatClampNeg)))), (A 26, xc26 Z A (ap_R_work M (((M.1 113) + 1), (M.2.1 104), 0, ((M.2.2.1 28) ((M.1 112)).toNatClampNeg)))), (A 27, xc27 Z A (ap_R_work M (((M.1 113) + 1), (M.2.1 104), 0, ((M.2.2.1 28) ((M.1 112)).toNatClampNeg)))), (A 28, xc28 Z A (ap_R_work M (((M.1 113) + 1), (M.2.1 104), 0, ((M.2.2.1 28) ((M.1 112)).toNatClampNeg))))]) [0, 1, 2, 3] rfl
      have hD9 := hD.sub (ws' := [(A 20, xc20 Z A (ap_R_work M (((M.1 113) + 1), (M.2.1 104), 0, ((M.2.2.1 28) ((M.1 112)).toNatClampNeg)))), (A 26, xc26 Z A (ap_R_work M (((M.1 113) + 1), (M.2.1 104), 0, ((M.2.2.1 28) ((M.1 112)).toNatClampNeg)))), (A 27, xc27 Z A (ap_R_work M (((M.1 113) + 1), (M.2.1 104), 0, ((M.2.2.1 28) ((M.1 112)).toNatClampNeg)))), (A 28, xc28 Z A (ap_R_work M (((M.1 113) + 1), (M.2.1 104), 0, ((M.2.2.1 28) ((M.1 112)).toNatClampNeg))))]) [0, 1, 2, 3] (by decide) rfl
      exact W.zret (ty := .boolean) hx hb hr rfl (fun t ht hW => ⟨⟨0, (((M.1 113) + 1), (M.2.1 104), 0, ((M.2.2.1 28) ((M.1 112)).toNatClampNeg)), rfl, (by rw [F_R_work, if_pos h1, if_neg h23]), xE_at hP9 hK hD9 ht hW⟩, hS.F ht⟩) hS.2.2 d_R_work_64
abbrev bc_R_force : ByteArray := prog_12_method_30_code
def y_R_force : MethodName := ⟨"CentrifugeUnitModel", "force", "()J"⟩
theorem d_R_force_0 : decode bc_R_force 0 = .ok (.aload_n 0, 1) := by decide +kernel
theorem d_R_force_1 : decode bc_R_force 1 = .ok (.iconst 0, 1) := by decide +kernel
theorem d_R_force_2 : decode bc_R_force 2 = .ok (.putfield 68, 3) := by decide +kernel
theorem d_R_force_5 : decode bc_R_force 5 = .ok (.aload_n 0, 1) := by decide +kernel
theorem d_R_force_6 : decode bc_R_force 6 = .ok (.getfield 49, 3) := by decide +kernel
theorem d_R_force_9 : decode bc_R_force 9 = .ok (.ifCond .ge 7, 3) := by decide +kernel
theorem d_R_force_12 : decode bc_R_force 12 = .ok (.lconst 0, 1) := by decide +kernel
theorem d_R_force_13 : decode bc_R_force 13 = .ok (.goto 31, 3) := by decide +kernel
theorem d_R_force_16 : decode bc_R_force 16 = .ok (.ldc2_w 248, 3) := by decide +kernel
theorem d_R_force_19 : decode bc_R_force 19 = .ok (.aload_n 0, 1) := by decide +kernel
theorem d_R_force_20 : decode bc_R_force 20 = .ok (.getfield 17, 3) := by decide +kernel
theorem d_R_force_23 : decode bc_R_force 23 = .ok (.aload_n 0, 1) := by decide +kernel
theorem d_R_force_24 : decode bc_R_force 24 = .ok (.getfield 49, 3) := by decide +kernel
theorem d_R_force_27 : decode bc_R_force 27 = .ok (.iaload, 1) := by decide +kernel
theorem d_R_force_28 : decode bc_R_force 28 = .ok (.i2l, 1) := by decide +kernel
theorem d_R_force_29 : decode bc_R_force 29 = .ok (.lmul, 1) := by decide +kernel
theorem d_R_force_30 : decode bc_R_force 30 = .ok (.aload_n 0, 1) := by decide +kernel
theorem d_R_force_31 : decode bc_R_force 31 = .ok (.getfield 195, 3) := by decide +kernel
theorem d_R_force_34 : decode bc_R_force 34 = .ok (.lmul, 1) := by decide +kernel
theorem d_R_force_35 : decode bc_R_force 35 = .ok (.aload_n 0, 1) := by decide +kernel
theorem d_R_force_36 : decode bc_R_force 36 = .ok (.getfield 195, 3) := by decide +kernel
theorem d_R_force_39 : decode bc_R_force 39 = .ok (.lmul, 1) := by decide +kernel
theorem d_R_force_40 : decode bc_R_force 40 = .ok (.ldc2_w 108, 3) := by decide +kernel
theorem d_R_force_43 : decode bc_R_force 43 = .ok (.ldiv, 1) := by decide +kernel
theorem d_R_force_44 : decode bc_R_force 44 = .ok (.lreturn, 1) := by decide +kernel
abbrev ap_R_force (M : XM) (u : Int32) : XM := ((va_up M.1 100 u), M.2)
def F_R_force (M : XM) : Int64 × Int32 := (if 0 ≤ (M.1 116) then (((((1118 * (((M.2.2.1 23) ((M.1 116)).toNatClampNeg)).toInt64) * (M.2.1 103)) * (M.2.1 103)) / 1000000), 0) else (0, 0))
set_option maxHeartbeats 4000000 in
set_option maxRecDepth 100000 in
theorem c_R_force (l : Launch) (dC : Nat → ClassId) (dI : Nat → Nat → Nat) (Z : Nat → ClassId) (A : Nat → Nat) (sz : Nat) (M : XM) (hro : (M.1 116) < 4) : Met l y_R_force (.code y_R_force bc_R_force 1 (some .long) :: xw) ({ frames := 0, cells := 0, slots := 0, locals := 0 }) (va_Pc [.ref (A 20)] (xB (dC, dI) xcl (xty Z) sz [(A 20, xc20 Z A M), (A 23, xc23 Z A M)])) (va_Ql (fun (r : Int64) (u : Int32) => (r, u) = F_R_force M) (fun u => xE (dC, dI) xcl (xty Z) (va_A [(A 20, xc20 Z A M), (A 23, xc23 Z A M)] sz) [(A 20, xc20 Z A (ap_R_force M u)), (A 23, xc23 Z A (ap_R_force M u))]) (va_A [(A 20, xc20 Z A M), (A 23, xc23 Z A M)] sz)) 0 0 (va_A [(A 20, xc20 Z A M), (A 23, xc23 Z A M)] sz) := by
  refine Met.ofW (cc := bc_R_force) (maxL := 1) (ret := (some .long)) (by decide) rfl ?_
  intro p e s m args below meth c s₁ B hml hv
  obtain ⟨rfl, hsz, hP, hK, hD0, hq⟩ := hv
  have hx := B.exec
  have hb := B.bytes
  have hr := B.returns
  have hts := atoms_spec (ws := (.code y_R_force bc_R_force 1 (some .long) :: xw)) B.pre
  have htt : ∀ w ∈ xw, w.before _ s = true := fun w h => hts w (List.mem_cons_of_mem _ h)
  have hown : s.vm.findClass "CentrifugeUnitModel" = some m.cls := findClass_of_methodNamed B.named
  have hlocks := B.notSynchronized
  subst hsz
  have hD := hD0.self (sz := s.heap.size)
  generalize hAe : va_A [(A 20, xc20 Z A M), (A 23, xc23 Z A M)] s.heap.size = AA at hD ⊢
  have hA : ∀ q : Nat, s.heap.size ≤ q → AA q := fun q h => by rw [← hAe]; exact Or.inr h
  have hS : va_S AA s.heap s.heap [] := va_S.rf
  have hP : va_P (dC, dI) xcl [(A 20, .inr (10, [.int (M.1 100), .ref (A 21), .ref (A 22), .ref (A 23), .ref (A 24), .ref (A 25), .int (M.1 101), .ref (A 26), .ref (A 27), .ref (A 28), .int (M.1 102), .long (M.2.1 100), .int (M.1 103), .int (M.1 104), .int (M.1 105), .int (M.1 106), .int (M.1 107), .int (M.1 108), .long (M.2.1 101), .long (M.2.1 102), .long (M.2.1 103), .int (M.1 109), .int (M.1 110), .int (M.1 111), .int (M.1 112), .int (M.1 113), .long (M.2.1 104), .long (M.2.1 105), .long (M.2.1 106), .int (M.1 114), .int (M.1 115), .int (M.1 116), .int (M.1 117), .int (M.1 118), .int (M.1 119), .int (M.1 120), .int (M.1 121), .int (M.1 122), .int (M.1 123), .int (M.1 124), .long (M.2.1 107), .int (M.1 125), .ref (A 29), .ref (A 30), .ref (A 31)])), (A 23, .inl (Z 0, 4, .inl (M.2.2.1 23)))] s.heap := hP
  have hD : va_D AA [(A 20, .inr (10, [.int (M.1 100), .ref (A 21), .ref (A 22), .ref (A 23), .ref (A 24), .ref (A 25), .int (M.1 101), .ref (A 26), .ref (A 27), .ref (A 28), .int (M.1 102), .long (M.2.1 100), .int (M.1 103), .int (M.1 104), .int (M.1 105), .int (M.1 106), .int (M.1 107), .int (M.1 108), .long (M.2.1 101), .long (M.2.1 102), .long (M.2.1 103), .int (M.1 109), .int (M.1 110), .int (M.1 111), .int (M.1 112), .int (M.1 113), .long (M.2.1 104), .long (M.2.1 105), .long (M.2.1 106), .int (M.1 114), .int (M.1 115), .int (M.1 116), .int (M.1 117), .int (M.1 118), .int (M.1 119), .int (M.1 120), .int (M.1 121), .int (M.1 122), .int (M.1 123), .int (M.1 124), .long (M.2.1 107), .int (M.1 125), .ref (A 29), .ref (A 30), .ref (A 31)])), (A 23, .inl (Z 0, 4, .inl (M.2.2.1 23)))] := hD
  have hl := lv_entry ([.ref (A 20)]) (n := 1) (Nat.le_of_ble_eq_true rfl)
  rw [lg_entry_eq]
  generalize (lg_sl ([.ref (A 20)]) ++ List.replicate (1 - (lg_sl ([.ref (A 20)])).length) Slot.unset).toArray = ls at hl ⊢
  have hl : lv_has ls 1 [(0, .ref (A 20))] := hl
  refine lv_aload_n hx hb d_R_force_0 rfl (lv_at hl 0 rfl) ?_
  refine lv_iconst (v := 0) hx hb d_R_force_1 (by decide) ?_
  refine va_put (D := (dC, dI)) (ci := 10) (v := .int 0) (ty := .int) (C := "CentrifugeUnitModel") (T := xF10) (N := 45) hx hb htt xin10 xT10 xTo10 xNm10 hown hK hP hD hS 0 rfl rfl 0 (by decide) (htt _ tw_779) (fun _ h9 => h9) rfl (by decide +kernel) rfl rfl (Nat.le_of_ble_eq_true rfl) d_R_force_2 (fun H locs hP hD hS => ?_)
  have hP : va_P (dC, dI) xcl [(A 20, .inr (10, [.int 0, .ref (A 21), .ref (A 22), .ref (A 23), .ref (A 24), .ref (A 25), .int (M.1 101), .ref (A 26), .ref (A 27), .ref (A 28), .int (M.1 102), .long (M.2.1 100), .int (M.1 103), .int (M.1 104), .int (M.1 105), .int (M.1 106), .int (M.1 107), .int (M.1 108), .long (M.2.1 101), .long (M.2.1 102), .long (M.2.1 103), .int (M.1 109), .int (M.1 110), .int (M.1 111), .int (M.1 112), .int (M.1 113), .long (M.2.1 104), .long (M.2.1 105), .long (M.2.1 106), .int (M.1 114), .int (M.1 115), .int (M.1 116), .int (M.1 117), .int (M.1 118), .int (M.1 119), .int (M.1 120), .int (M.1 121), .int (M.1 122), .int (M.1 123), .int (M.1 124), .long (M.2.1 107), .int (M.1 125), .ref (A 29), .ref (A 30), .ref (A 31)])), (A 23, .inl (Z 0, 4, .inl (M.2.2.1 23)))] H := hP
  have hD : va_D AA [(A 20, .inr (10, [.int 0, .ref (A 21), .ref (A 22), .ref (A 23), .ref (A 24), .ref (A 25), .int (M.1 101), .ref (A 26), .ref (A 27), .ref (A 28), .int (M.1 102), .long (M.2.1 100), .int (M.1 103), .int (M.1 104), .int (M.1 105), .int (M.1 106), .int (M.1 107), .int (M.1 108), .long (M.2.1 101), .long (M.2.1 102), .long (M.2.1 103), .int (M.1 109), .int (M.1 110), .int (M.1 111), .int (M.1 112), .int (M.1 113), .long (M.2.1 104), .long (M.2.1 105), .long (M.2.1 106), .int (M.1 114), .int (M.1 115), .int (M.1 116), .int (M.1 117), .int (M.1 118), .int (M.1 119), .int (M.1 120), .int (M.1 121), .int (M.1 122), .int (M.1 123), .int (M.1 124), .long (M.2.1 107), .int (M.1 125), .ref (A 29), .ref (A 30), .ref (A 31)])), (A 23, .inl (Z 0, 4, .inl (M.2.2.1 23)))] := hD
  refine lv_aload_n hx hb d_R_force_5 rfl (lv_at hl 0 rfl) ?_
  refine va_get (D := (dC, dI)) (ci := 10) (v := .int (M.1 116)) (C := "CentrifugeUnitModel") (T := xF10) (N := 45) hx hb htt xin10 hown hK hP 0 rfl rfl 31 (by decide) (htt _ tw_810) (fun _ h9 => h9) rfl d_R_force_6 ?_
  refine lv_if_ge (tgt := 16) hx hb d_R_force_9 rfl (fun h1 => ?_) (fun h1 => ?_)
  · refine lv_ldc2 (v := 1118) hx hb hown (htt _ tw_1057) d_R_force_16 ?_
    refine lv_aload_n hx hb d_R_force_19 rfl (lv_at hl 0 rfl) ?_
    refine va_get (D := (dC, dI)) (ci := 10) (v := .ref (A 23)) (C := "CentrifugeUnitModel") (T := xF10) (N := 45) hx hb htt xin10 hown hK hP 0 rfl rfl 3 (by decide) (htt _ tw_782) (fun _ h9 => h9) rfl d_R_force_20 ?_
    refine lv_aload_n hx hb d_R_force_23 rfl (lv_at hl 0 rfl) ?_
    refine va_get (D := (dC, dI)) (ci := 10) (v := .int (M.1 116)) (C := "CentrifugeUnitModel") (T := xF10) (N := 45) hx hb htt xin10 hown hK hP 0 rfl rfl 31 (by decide) (htt _ tw_810) (fun _ h9 => h9) rfl d_R_force_24 ?_
    refine va_iald (D := (dC, dI)) hx hb hK hP 1 0 rfl rfl (xge4 h1 hro) d_R_force_27 ?_
    refine lv_i2l (v := (((M.2.2.1 23) ((M.1 116)).toNatClampNeg)).toInt64) hx hb d_R_force_28 rfl ?_
    refine lv_lmul hx hb d_R_force_29 ?_
    refine lv_aload_n hx hb d_R_force_30 rfl (lv_at hl 0 rfl) ?_
    refine va_get (D := (dC, dI)) (ci := 10) (v := .long (M.2.1 103)) (C := "CentrifugeUnitModel") (T := xF10) (N := 45) hx hb htt xin10 hown hK hP 0 rfl rfl 20 (by decide) (htt _ tw_799) (fun _ h9 => h9) rfl d_R_force_31 ?_
    refine lv_lmul hx hb d_R_force_34 ?_
    refine lv_aload_n hx hb d_R_force_35 rfl (lv_at hl 0 rfl) ?_
    refine va_get (D := (dC, dI)) (ci := 10) (v := .long (M.2.1 103)) (C := "CentrifugeUnitModel") (T := xF10) (N := 45) hx hb htt xin10 hown hK hP 0 rfl rfl 20 (by decide) (htt _ tw_799) (fun _ h9 => h9) rfl d_R_force_36 ?_
    refine lv_lmul hx hb d_R_force_39 ?_
    refine lv_ldc2 (v := 1000000) hx hb hown (htt _ tw_952) d_R_force_40 ?_
    refine lv_ldiv hx hb d_R_force_43 (by decide) ?_
    have hP9 := hP.sub (ws' := [(A 20, xc20 Z A (ap_R_force M 0)), (A 23, xc23 Z A (ap_R_force M 0))]) [0, 1] rfl
    have hD9 := hD.sub (ws' := [(A 20, xc20 Z A (ap_R_force M 0)), (A 23, xc23 Z A (ap_R_force M 0))]) [0, 1] (by decide) rfl
    exact W.lret hx hb hr (fun t ht hW => ⟨⟨((((1118 * (((M.2.2.1 23) ((M.1 116)).toNatClampNeg)).toInt64) * (M.2.1 103)) * (M.2.1 103)) / 1000000), 0, rfl, (by rw [F_R_force, if_pos h1]), xE_at hP9 hK hD9 ht hW⟩, hS.F ht⟩) hS.2.2 d_R_force_44
  · refine lv_lconst (v := 0) hx hb d_R_force_12 (by decide) ?_
    refine lv_goto (tgt := 44) hx hb d_R_force_13 rfl ?_
    have hP9 := hP.sub (ws' := [(A 20, xc20 Z A (ap_R_force M 0)), (A 23, xc23 Z A (ap_R_force M 0))]) [0, 1] rfl
    have hD9 := hD.sub (ws' := [(A 20, xc20 Z A (ap_R_force M 0)), (A 23, xc23 Z A (ap_R_force M 0))]) [0, 1] (by decide) rfl
    exact W.lret hx hb hr (fun t ht hW => ⟨⟨0, 0, rfl, (by rw [F_R_force, if_neg h1]), xE_at hP9 hK hD9 ht hW⟩, hS.F ht⟩) hS.2.2 d_R_force_44
abbrev bc_R_look : ByteArray := prog_12_method_28_code
def y_R_look : MethodName := ⟨"CentrifugeUnitModel", "look", "(I)I"⟩
theorem d_R_look_0 : decode bc_R_look 0 = .ok (.aload_n 0, 1) := by decide +kernel
theorem d_R_look_1 : decode bc_R_look 1 = .ok (.iload_n 1, 1) := by decide +kernel
theorem d_R_look_2 : decode bc_R_look 2 = .ok (.i2l, 1) := by decide +kernel
theorem d_R_look_3 : decode bc_R_look 3 = .ok (.lconst 0, 1) := by decide +kernel
theorem d_R_look_4 : decode bc_R_look 4 = .ok (.ldc2_w 85, 3) := by decide +kernel
theorem d_R_look_7 : decode bc_R_look 7 = .ok (.invokestatic 79, 3) := by decide +kernel
theorem d_R_look_10 : decode bc_R_look 10 = .ok (.ifCond .ne 7, 3) := by decide +kernel
theorem d_R_look_13 : decode bc_R_look 13 = .ok (.iconst 1, 1) := by decide +kernel
theorem d_R_look_14 : decode bc_R_look 14 = .ok (.goto 4, 3) := by decide +kernel
theorem d_R_look_17 : decode bc_R_look 17 = .ok (.iconst 0, 1) := by decide +kernel
theorem d_R_look_18 : decode bc_R_look 18 = .ok (.iconst 0, 1) := by decide +kernel
theorem d_R_look_19 : decode bc_R_look 19 = .ok (.invokevirtual 98, 3) := by decide +kernel
theorem d_R_look_22 : decode bc_R_look 22 = .ok (.ifCond .eq 5, 3) := by decide +kernel
theorem d_R_look_25 : decode bc_R_look 25 = .ok (.iconst 0, 1) := by decide +kernel
theorem d_R_look_26 : decode bc_R_look 26 = .ok (.ireturn, 1) := by decide +kernel
theorem d_R_look_27 : decode bc_R_look 27 = .ok (.iload_n 1, 1) := by decide +kernel
theorem d_R_look_28 : decode bc_R_look 28 = .ok (.tableswitch 136 0 9 #[56, 61, 66, 83, 88, 93, 106, 112, 118, 123], 56) := by decide +kernel
theorem d_R_look_84 : decode bc_R_look 84 = .ok (.aload_n 0, 1) := by decide +kernel
theorem d_R_look_85 : decode bc_R_look 85 = .ok (.getfield 95, 3) := by decide +kernel
theorem d_R_look_88 : decode bc_R_look 88 = .ok (.ireturn, 1) := by decide +kernel
theorem d_R_look_89 : decode bc_R_look 89 = .ok (.aload_n 0, 1) := by decide +kernel
theorem d_R_look_90 : decode bc_R_look 90 = .ok (.getfield 127, 3) := by decide +kernel
theorem d_R_look_93 : decode bc_R_look 93 = .ok (.ireturn, 1) := by decide +kernel
theorem d_R_look_94 : decode bc_R_look 94 = .ok (.aload_n 0, 1) := by decide +kernel
theorem d_R_look_95 : decode bc_R_look 95 = .ok (.getfield 95, 3) := by decide +kernel
theorem d_R_look_98 : decode bc_R_look 98 = .ok (.iconst 1, 1) := by decide +kernel
theorem d_R_look_99 : decode bc_R_look 99 = .ok (.if_icmp .ne 10, 3) := by decide +kernel
theorem d_R_look_102 : decode bc_R_look 102 = .ok (.aload_n 0, 1) := by decide +kernel
theorem d_R_look_103 : decode bc_R_look 103 = .ok (.getfield 140, 3) := by decide +kernel
theorem d_R_look_106 : decode bc_R_look 106 = .ok (.goto 4, 3) := by decide +kernel
theorem d_R_look_109 : decode bc_R_look 109 = .ok (.iconst (-1), 1) := by decide +kernel
theorem d_R_look_110 : decode bc_R_look 110 = .ok (.ireturn, 1) := by decide +kernel
theorem d_R_look_111 : decode bc_R_look 111 = .ok (.aload_n 0, 1) := by decide +kernel
theorem d_R_look_112 : decode bc_R_look 112 = .ok (.getfield 171, 3) := by decide +kernel
theorem d_R_look_115 : decode bc_R_look 115 = .ok (.ireturn, 1) := by decide +kernel
theorem d_R_look_116 : decode bc_R_look 116 = .ok (.aload_n 0, 1) := by decide +kernel
theorem d_R_look_117 : decode bc_R_look 117 = .ok (.getfield 174, 3) := by decide +kernel
theorem d_R_look_120 : decode bc_R_look 120 = .ok (.ireturn, 1) := by decide +kernel
theorem d_R_look_121 : decode bc_R_look 121 = .ok (.aload_n 0, 1) := by decide +kernel
theorem d_R_look_122 : decode bc_R_look 122 = .ok (.getfield 177, 3) := by decide +kernel
theorem d_R_look_125 : decode bc_R_look 125 = .ok (.ifCond .eq 7, 3) := by decide +kernel
theorem d_R_look_128 : decode bc_R_look 128 = .ok (.iconst 1, 1) := by decide +kernel
theorem d_R_look_129 : decode bc_R_look 129 = .ok (.goto 4, 3) := by decide +kernel
theorem d_R_look_132 : decode bc_R_look 132 = .ok (.iconst 0, 1) := by decide +kernel
theorem d_R_look_133 : decode bc_R_look 133 = .ok (.ireturn, 1) := by decide +kernel
theorem d_R_look_134 : decode bc_R_look 134 = .ok (.aload_n 0, 1) := by decide +kernel
theorem d_R_look_135 : decode bc_R_look 135 = .ok (.getfield 189, 3) := by decide +kernel
theorem d_R_look_138 : decode bc_R_look 138 = .ok (.l2i, 1) := by decide +kernel
theorem d_R_look_139 : decode bc_R_look 139 = .ok (.ireturn, 1) := by decide +kernel
theorem d_R_look_140 : decode bc_R_look 140 = .ok (.aload_n 0, 1) := by decide +kernel
theorem d_R_look_141 : decode bc_R_look 141 = .ok (.getfield 192, 3) := by decide +kernel
theorem d_R_look_144 : decode bc_R_look 144 = .ok (.l2i, 1) := by decide +kernel
theorem d_R_look_145 : decode bc_R_look 145 = .ok (.ireturn, 1) := by decide +kernel
theorem d_R_look_146 : decode bc_R_look 146 = .ok (.aload_n 0, 1) := by decide +kernel
theorem d_R_look_147 : decode bc_R_look 147 = .ok (.getfield 49, 3) := by decide +kernel
theorem d_R_look_150 : decode bc_R_look 150 = .ok (.ireturn, 1) := by decide +kernel
theorem d_R_look_151 : decode bc_R_look 151 = .ok (.aload_n 0, 1) := by decide +kernel
theorem d_R_look_152 : decode bc_R_look 152 = .ok (.invokevirtual 152, 3) := by decide +kernel
theorem d_R_look_155 : decode bc_R_look 155 = .ok (.ifCond .eq 7, 3) := by decide +kernel
theorem d_R_look_158 : decode bc_R_look 158 = .ok (.iconst 1, 1) := by decide +kernel
theorem d_R_look_159 : decode bc_R_look 159 = .ok (.goto 4, 3) := by decide +kernel
theorem d_R_look_162 : decode bc_R_look 162 = .ok (.iconst 0, 1) := by decide +kernel
theorem d_R_look_163 : decode bc_R_look 163 = .ok (.ireturn, 1) := by decide +kernel
theorem d_R_look_164 : decode bc_R_look 164 = .ok (.aload_n 0, 1) := by decide +kernel
theorem d_R_look_165 : decode bc_R_look 165 = .ok (.getfield 146, 3) := by decide +kernel
theorem d_R_look_168 : decode bc_R_look 168 = .ok (.l2i, 1) := by decide +kernel
theorem d_R_look_169 : decode bc_R_look 169 = .ok (.ireturn, 1) := by decide +kernel
abbrev ap_R_look (M : XM) (u : Int32) : XM := ((va_up M.1 100 u), M.2)
def F_R_look_k5 (M : XM) (a1 : Int32) (z1 : Int32) (j2 : Int32) (p6 : Int32 × Int32) (z20 : Int32) : Int32 × Int32 := (if z20 = 0 then (0, (p6.2)) else (1, (p6.2)))
def F_R_look_k4 (M : XM) (a1 : Int32) (z1 : Int32) (j2 : Int32) (p6 : Int32 × Int32) : Int32 × Int32 := (if p6.1 = 0 then (if a1 = 0 then ((M.1 110), (p6.2)) else (if a1 = 1 then ((M.1 111), (p6.2)) else (if a1 = 2 then (if (M.1 110) = 1 then ((M.1 112), (p6.2)) else ((-1), (p6.2))) else (if a1 = 3 then ((M.1 103), (p6.2)) else (if a1 = 4 then ((M.1 104), (p6.2)) else (if a1 = 5 then (if (M.1 105) = 0 then (0, (p6.2)) else (1, (p6.2))) else (if a1 = 6 then (((M.2.1 101)).toInt32, (p6.2)) else (if a1 = 7 then (((M.2.1 102)).toInt32, (p6.2)) else (if a1 = 8 then ((M.1 116), (p6.2)) else (if a1 = 9 then (F_R_look_k5 M a1 z1 j2 p6 (F_R_atRest ((va_up M.1 100 (p6.2)), M.2))) else (((M.2.1 104)).toInt32, (p6.2)))))))))))) else (0, (p6.2)))
def F_R_look_k3 (M : XM) (a1 : Int32) (z1 : Int32) (j2 : Int32) : Int32 × Int32 := (F_R_look_k4 M a1 z1 j2 (F_R_throwing M j2 0))
def F_R_look_j2 (M : XM) (a1 : Int32) (z1 : Int32) : Int32 := (if z1 = 0 then 1 else 0)
def F_R_look_k1 (M : XM) (a1 : Int32) (z1 : Int32) : Int32 × Int32 := (F_R_look_k3 M a1 z1 (F_R_look_j2 M a1 z1))
def F_R_look (M : XM) (a1 : Int32) : Int32 × Int32 := (F_R_look_k1 M a1 (F_R_in M (a1).toInt64 0 10))
set_option maxHeartbeats 4000000 in
set_option maxRecDepth 100000 in
theorem c_R_look (l : Launch) (dC : Nat → ClassId) (dI : Nat → Nat → Nat) (Z : Nat → ClassId) (A : Nat → Nat) (sz : Nat) (M : XM) (a1 : Int32) : Met l y_R_look (.code y_R_look bc_R_look 2 (some .int) :: xw) ({ frames := 1, cells := 0, slots := 0, locals := 25 }) (va_Pc [.ref (A 20), .int a1] (xB (dC, dI) xcl (xty Z) sz [(A 20, xc20 Z A M)])) (va_Qi (fun (r : Int32) (u : Int32) => (r, u) = F_R_look M a1) (fun u => xE (dC, dI) xcl (xty Z) (va_A [(A 20, xc20 Z A M)] sz) [(A 20, xc20 Z A (ap_R_look M u))]) (va_A [(A 20, xc20 Z A M)] sz)) 0 0 (va_A [(A 20, xc20 Z A M)] sz) := by
  refine Met.ofW (cc := bc_R_look) (maxL := 2) (ret := (some .int)) (by decide) rfl ?_
  intro p e s m args below meth c s₁ B hml hv
  obtain ⟨rfl, hsz, hP, hK, hD0, hq⟩ := hv
  have hx := B.exec
  have hb := B.bytes
  have hr := B.returns
  have hts := atoms_spec (ws := (.code y_R_look bc_R_look 2 (some .int) :: xw)) B.pre
  have htt : ∀ w ∈ xw, w.before _ s = true := fun w h => hts w (List.mem_cons_of_mem _ h)
  have hown : s.vm.findClass "CentrifugeUnitModel" = some m.cls := findClass_of_methodNamed B.named
  have hlocks := B.notSynchronized
  subst hsz
  have hD := hD0.self (sz := s.heap.size)
  generalize hAe : va_A [(A 20, xc20 Z A M)] s.heap.size = AA at hD ⊢
  have hA : ∀ q : Nat, s.heap.size ≤ q → AA q := fun q h => by rw [← hAe]; exact Or.inr h
  have hS : va_S AA s.heap s.heap [] := va_S.rf
  have hP : va_P (dC, dI) xcl [(A 20, .inr (10, [.int (M.1 100), .ref (A 21), .ref (A 22), .ref (A 23), .ref (A 24), .ref (A 25), .int (M.1 101), .ref (A 26), .ref (A 27), .ref (A 28), .int (M.1 102), .long (M.2.1 100), .int (M.1 103), .int (M.1 104), .int (M.1 105), .int (M.1 106), .int (M.1 107), .int (M.1 108), .long (M.2.1 101), .long (M.2.1 102), .long (M.2.1 103), .int (M.1 109), .int (M.1 110), .int (M.1 111), .int (M.1 112), .int (M.1 113), .long (M.2.1 104), .long (M.2.1 105), .long (M.2.1 106), .int (M.1 114), .int (M.1 115), .int (M.1 116), .int (M.1 117), .int (M.1 118), .int (M.1 119), .int (M.1 120), .int (M.1 121), .int (M.1 122), .int (M.1 123), .int (M.1 124), .long (M.2.1 107), .int (M.1 125), .ref (A 29), .ref (A 30), .ref (A 31)]))] s.heap := hP
  have hD : va_D AA [(A 20, .inr (10, [.int (M.1 100), .ref (A 21), .ref (A 22), .ref (A 23), .ref (A 24), .ref (A 25), .int (M.1 101), .ref (A 26), .ref (A 27), .ref (A 28), .int (M.1 102), .long (M.2.1 100), .int (M.1 103), .int (M.1 104), .int (M.1 105), .int (M.1 106), .int (M.1 107), .int (M.1 108), .long (M.2.1 101), .long (M.2.1 102), .long (M.2.1 103), .int (M.1 109), .int (M.1 110), .int (M.1 111), .int (M.1 112), .int (M.1 113), .long (M.2.1 104), .long (M.2.1 105), .long (M.2.1 106), .int (M.1 114), .int (M.1 115), .int (M.1 116), .int (M.1 117), .int (M.1 118), .int (M.1 119), .int (M.1 120), .int (M.1 121), .int (M.1 122), .int (M.1 123), .int (M.1 124), .long (M.2.1 107), .int (M.1 125), .ref (A 29), .ref (A 30), .ref (A 31)]))] := hD
  have hl := lv_entry ([.ref (A 20), .int a1]) (n := 2) (Nat.le_of_ble_eq_true rfl)
  rw [lg_entry_eq]
  generalize (lg_sl ([.ref (A 20), .int a1]) ++ List.replicate (2 - (lg_sl ([.ref (A 20), .int a1])).length) Slot.unset).toArray = ls at hl ⊢
  have hl : lv_has ls 2 [(0, .ref (A 20)), (1, .int a1)] := hl
  refine lv_aload_n hx hb d_R_look_0 rfl (lv_at hl 0 rfl) ?_
  refine lv_iload_n hx hb d_R_look_1 rfl (lv_at hl 1 rfl) ?_
  refine lv_i2l (v := (a1).toInt64) hx hb d_R_look_2 rfl ?_
  refine lv_lconst (v := 0) hx hb d_R_look_3 (by decide) ?_
  refine lv_ldc2 (v := 10) hx hb hown (htt _ tw_929) d_R_look_4 ?_
  have hPc := hP.sub (ws' := []) [] rfl
  have hDc := hD.sub (ws' := []) [] (by decide) rfl
  refine xk_p (va_runS (As := [.long (a1).toInt64, .long 0, .long 10]) (rest := [.ref (A 20)]) ⟨hx, hb, hml, hown, hts⟩ (c_R_in l dC dI Z A _ M (a1).toInt64 0 10) (va_cwS 3 hts (xw_S _ tw_925 tw_926 tw_12 tw_927) rfl rfl rfl (by decide +kernel) ⟨Nat.le_of_ble_eq_true rfl, Nat.le_of_ble_eq_true rfl⟩) ⟨xB_blind, fun U hU hW => ⟨rfl, xB_at hPc hK hDc hq U hU hW⟩⟩ rfl rfl hl.1 rfl (lv_room (Nat.le_of_ble_eq_true rfl)) d_R_look_7 ⟨Nat.le_of_ble_eq_true rfl, Nat.le_of_ble_eq_true rfl⟩) ?_
  refine lv_topi (fun z1 hz1 => ?_)
  refine xj_p 2 18 (fun q9 : Int32 => [(0, .ref (A 20)), (1, .int a1)]) (fun q9 : Int32 => [.int q9, .ref (A 20)]) (fun q9 : Int32 => q9 = F_R_look_j2 M a1 z1) (fun hJ3 => ?_) (fun ls j2 hl hj2 => ?_)
  · refine lv_if_ne (tgt := 17) hx hb d_R_look_10 rfl (fun h22 => ?_) (fun h22 => ?_)
    · refine lv_iconst (v := 0) hx hb d_R_look_17 (by decide) ?_
      exact hJ3 _ 0 (lv_sub hl [0, 1] rfl) (by rw [F_R_look_j2, if_neg h22])
    · refine lv_iconst (v := 1) hx hb d_R_look_13 (by decide) ?_
      refine lv_goto (tgt := 18) hx hb d_R_look_14 rfl ?_
      exact hJ3 _ 1 (lv_sub hl [0, 1] rfl) (by rw [F_R_look_j2, if_pos h22])
  · refine lv_iconst (v := 0) hx hb d_R_look_18 (by decide) ?_
    have hPc := hP.sub (ws' := [(A 20, xc20 Z A M)]) [0] rfl
    have hDc := hD.sub (ws' := [(A 20, xc20 Z A M)]) [0] (by decide) rfl
    refine xk_i (wc := [(A 20, xc20 Z A M)]) (wr := []) (va_runV (As := [.int j2, .int 0]) (rest := []) ⟨hx, hb, hml, hown, hts⟩ (c_R_throwing l dC dI Z A _ M j2 0) (cwV 2 hts (xw_V _ tw_934 tw_936 tp_12 tw_12 tw_937) rfl rfl rfl (by decide +kernel) ⟨Nat.le_of_ble_eq_true rfl, Nat.le_of_ble_eq_true rfl⟩) ⟨xB_blind, va_recv (q0 := 0) (ci := 10) hK hP rfl rfl, fun U hU hW => ⟨rfl, xB_at hPc hK hDc hq U hU hW⟩⟩ rfl rfl hl.1 rfl (lv_room (Nat.le_of_ble_eq_true rfl)) d_R_look_19 ⟨Nat.le_of_ble_eq_true rfl, Nat.le_of_ble_eq_true rfl⟩) hP hD hS hA [0] [] rfl rfl (by decide) (by decide) (fun r5 u4 H locs hu4 hP hD hS => ?_)
    obtain ⟨p6, rfl, rfl⟩ : ∃ z : Int32 × Int32, r5 = z.1 ∧ u4 = z.2 := ⟨(r5, u4), rfl, rfl⟩
    replace hu4 : p6 = (F_R_throwing M j2 0) := hu4
    have hP : va_P (dC, dI) xcl [(A 20, .inr (10, [.int (p6.2), .ref (A 21), .ref (A 22), .ref (A 23), .ref (A 24), .ref (A 25), .int (M.1 101), .ref (A 26), .ref (A 27), .ref (A 28), .int (M.1 102), .long (M.2.1 100), .int (M.1 103), .int (M.1 104), .int (M.1 105), .int (M.1 106), .int (M.1 107), .int (M.1 108), .long (M.2.1 101), .long (M.2.1 102), .long (M.2.1 103), .int (M.1 109), .int (M.1 110), .int (M.1 111), .int (M.1 112), .int (M.1 113), .long (M.2.1 104), .long (M.2.1 105), .long (M.2.1 106), .int (M.1 114), .int (M.1 115), .int (M.1 116), .int (M.1 117), .int (M.1 118), .int (M.1 119), .int (M.1 120), .int (M.1 121), .int (M.1 122), .int (M.1 123), .int (M.1 124), .long (M.2.1 107), .int (M.1 125), .ref (A 29), .ref (A 30), .ref (A 31)]))] H := hP
    have hD : va_D AA [(A 20, .inr (10, [.int (p6.2), .ref (A 21), .ref (A 22), .ref (A 23), .ref (A 24), .ref (A 25), .int (M.1 101), .ref (A 26), .ref (A 27), .ref (A 28), .int (M.1 102), .long (M.2.1 100), .int (M.1 103), .int (M.1 104), .int (M.1 105), .int (M.1 106), .int (M.1 107), .int (M.1 108), .long (M.2.1 101), .long (M.2.1 102), .long (M.2.1 103), .int (M.1 109), .int (M.1 110), .int (M.1 111), .int (M.1 112), .int (M.1 113), .long (M.2.1 104), .long (M.2.1 105), .long (M.2.1 106), .int (M.1 114), .int (M.1 115), .int (M.1 116), .int (M.1 117), .int (M.1 118), .int (M.1 119), .int (M.1 120), .int (M.1 121), .int (M.1 122), .int (M.1 123), .int (M.1 124), .long (M.2.1 107), .int (M.1 125), .ref (A 29), .ref (A 30), .ref (A 31)]))] := hD
    refine lv_if_eq (tgt := 27) hx hb d_R_look_22 rfl (fun h7 => ?_) (fun h7 => ?_)
    · refine lv_iload_n hx hb d_R_look_27 rfl (lv_at hl 1 rfl) ?_
      by_cases h8 : a1 = 0
      · refine lv_tableIn (off := 56) (tgt := 84) hx hb d_R_look_28 (by rw [h8]; decide) (by rw [h8]; decide) (by rw [h8]; decide) rfl ?_
        refine lv_aload_n hx hb d_R_look_84 rfl (lv_at hl 0 rfl) ?_
        refine va_get (D := (dC, dI)) (ci := 10) (v := .int (M.1 110)) (C := "CentrifugeUnitModel") (T := xF10) (N := 45) hx hb htt xin10 hown hK hP 0 rfl rfl 22 (by decide) (htt _ tw_801) (fun _ h9 => h9) rfl d_R_look_85 ?_
        have hP9 := hP.sub (ws' := [(A 20, xc20 Z A (ap_R_look M (p6.2)))]) [0] rfl
        have hD9 := hD.sub (ws' := [(A 20, xc20 Z A (ap_R_look M (p6.2)))]) [0] (by decide) rfl
        exact W.iret hx hb hr (fun t ht hW => ⟨⟨(M.1 110), (p6.2), rfl, (by rw [F_R_look, ← hz1, F_R_look_k1, ← hj2, F_R_look_k3, ← hu4, F_R_look_k4, if_pos h7, if_pos h8]), xE_at hP9 hK hD9 ht hW⟩, hS.F ht⟩) hS.2.2 d_R_look_88
      by_cases h9 : a1 = 1
      · refine lv_tableIn (off := 61) (tgt := 89) hx hb d_R_look_28 (by rw [h9]; decide) (by rw [h9]; decide) (by rw [h9]; decide) rfl ?_
        refine lv_aload_n hx hb d_R_look_89 rfl (lv_at hl 0 rfl) ?_
        refine va_get (D := (dC, dI)) (ci := 10) (v := .int (M.1 111)) (C := "CentrifugeUnitModel") (T := xF10) (N := 45) hx hb htt xin10 hown hK hP 0 rfl rfl 23 (by decide) (htt _ tw_802) (fun _ h9 => h9) rfl d_R_look_90 ?_
        have hP9 := hP.sub (ws' := [(A 20, xc20 Z A (ap_R_look M (p6.2)))]) [0] rfl
        have hD9 := hD.sub (ws' := [(A 20, xc20 Z A (ap_R_look M (p6.2)))]) [0] (by decide) rfl
        exact W.iret hx hb hr (fun t ht hW => ⟨⟨(M.1 111), (p6.2), rfl, (by rw [F_R_look, ← hz1, F_R_look_k1, ← hj2, F_R_look_k3, ← hu4, F_R_look_k4, if_pos h7, if_neg h8, if_pos h9]), xE_at hP9 hK hD9 ht hW⟩, hS.F ht⟩) hS.2.2 d_R_look_93
      by_cases h10 : a1 = 2
      · refine lv_tableIn (off := 66) (tgt := 94) hx hb d_R_look_28 (by rw [h10]; decide) (by rw [h10]; decide) (by rw [h10]; decide) rfl ?_
        refine lv_aload_n hx hb d_R_look_94 rfl (lv_at hl 0 rfl) ?_
        refine va_get (D := (dC, dI)) (ci := 10) (v := .int (M.1 110)) (C := "CentrifugeUnitModel") (T := xF10) (N := 45) hx hb htt xin10 hown hK hP 0 rfl rfl 22 (by decide) (htt _ tw_801) (fun _ h9 => h9) rfl d_R_look_95 ?_
        refine lv_iconst (v := 1) hx hb d_R_look_98 (by decide) ?_
        refine lv_icmp_ne (tgt := 109) hx hb d_R_look_99 rfl (fun h11 => ?_) (fun h11 => ?_)
        · refine lv_iconst (v := (-1)) hx hb d_R_look_109 (by decide) ?_
          have hP9 := hP.sub (ws' := [(A 20, xc20 Z A (ap_R_look M (p6.2)))]) [0] rfl
          have hD9 := hD.sub (ws' := [(A 20, xc20 Z A (ap_R_look M (p6.2)))]) [0] (by decide) rfl
          exact W.iret hx hb hr (fun t ht hW => ⟨⟨(-1), (p6.2), rfl, (by rw [F_R_look, ← hz1, F_R_look_k1, ← hj2, F_R_look_k3, ← hu4, F_R_look_k4, if_pos h7, if_neg h8, if_neg h9, if_pos h10, if_neg h11]), xE_at hP9 hK hD9 ht hW⟩, hS.F ht⟩) hS.2.2 d_R_look_110
        · refine lv_aload_n hx hb d_R_look_102 rfl (lv_at hl 0 rfl) ?_
          refine va_get (D := (dC, dI)) (ci := 10) (v := .int (M.1 112)) (C := "CentrifugeUnitModel") (T := xF10) (N := 45) hx hb htt xin10 hown hK hP 0 rfl rfl 24 (by decide) (htt _ tw_803) (fun _ h9 => h9) rfl d_R_look_103 ?_
          refine lv_goto (tgt := 110) hx hb d_R_look_106 rfl ?_
          have hP9 := hP.sub (ws' := [(A 20, xc20 Z A (ap_R_look M (p6.2)))]) [0] rfl
          have hD9 := hD.sub (ws' := [(A 20, xc20 Z A (ap_R_look M (p6.2)))]) [0] (by decide) rfl
          exact W.iret hx hb hr (fun t ht hW => ⟨⟨(M.1 112), (p6.2), rfl, (by rw [F_R_look, ← hz1, F_R_look_k1, ← hj2, F_R_look_k3, ← hu4, F_R_look_k4, if_pos h7, if_neg h8, if_neg h9, if_pos h10, if_pos h11]), xE_at hP9 hK hD9 ht hW⟩, hS.F ht⟩) hS.2.2 d_R_look_110
      by_cases h12 : a1 = 3
      · refine lv_tableIn (off := 83) (tgt := 111) hx hb d_R_look_28 (by rw [h12]; decide) (by rw [h12]; decide) (by rw [h12]; decide) rfl ?_
        refine lv_aload_n hx hb d_R_look_111 rfl (lv_at hl 0 rfl) ?_
        refine va_get (D := (dC, dI)) (ci := 10) (v := .int (M.1 103)) (C := "CentrifugeUnitModel") (T := xF10) (N := 45) hx hb htt xin10 hown hK hP 0 rfl rfl 12 (by decide) (htt _ tw_791) (fun _ h9 => h9) rfl d_R_look_112 ?_
        have hP9 := hP.sub (ws' := [(A 20, xc20 Z A (ap_R_look M (p6.2)))]) [0] rfl
        have hD9 := hD.sub (ws' := [(A 20, xc20 Z A (ap_R_look M (p6.2)))]) [0] (by decide) rfl
        exact W.iret hx hb hr (fun t ht hW => ⟨⟨(M.1 103), (p6.2), rfl, (by rw [F_R_look, ← hz1, F_R_look_k1, ← hj2, F_R_look_k3, ← hu4, F_R_look_k4, if_pos h7, if_neg h8, if_neg h9, if_neg h10, if_pos h12]), xE_at hP9 hK hD9 ht hW⟩, hS.F ht⟩) hS.2.2 d_R_look_115
      by_cases h13 : a1 = 4
      · refine lv_tableIn (off := 88) (tgt := 116) hx hb d_R_look_28 (by rw [h13]; decide) (by rw [h13]; decide) (by rw [h13]; decide) rfl ?_
        refine lv_aload_n hx hb d_R_look_116 rfl (lv_at hl 0 rfl) ?_
        refine va_get (D := (dC, dI)) (ci := 10) (v := .int (M.1 104)) (C := "CentrifugeUnitModel") (T := xF10) (N := 45) hx hb htt xin10 hown hK hP 0 rfl rfl 13 (by decide) (htt _ tw_792) (fun _ h9 => h9) rfl d_R_look_117 ?_
        have hP9 := hP.sub (ws' := [(A 20, xc20 Z A (ap_R_look M (p6.2)))]) [0] rfl
        have hD9 := hD.sub (ws' := [(A 20, xc20 Z A (ap_R_look M (p6.2)))]) [0] (by decide) rfl
        exact W.iret hx hb hr (fun t ht hW => ⟨⟨(M.1 104), (p6.2), rfl, (by rw [F_R_look, ← hz1, F_R_look_k1, ← hj2, F_R_look_k3, ← hu4, F_R_look_k4, if_pos h7, if_neg h8, if_neg h9, if_neg h10, if_neg h12, if_pos h13]), xE_at hP9 hK hD9 ht hW⟩, hS.F ht⟩) hS.2.2 d_R_look_120
      by_cases h14 : a1 = 5
      · refine lv_tableIn (off := 93) (tgt := 121) hx hb d_R_look_28 (by rw [h14]; decide) (by rw [h14]; decide) (by rw [h14]; decide) rfl ?_
        refine lv_aload_n hx hb d_R_look_121 rfl (lv_at hl 0 rfl) ?_
        refine va_get (D := (dC, dI)) (ci := 10) (v := .int (M.1 105)) (C := "CentrifugeUnitModel") (T := xF10) (N := 45) hx hb htt xin10 hown hK hP 0 rfl rfl 14 (by decide) (htt _ tw_793) (fun _ h9 => h9) rfl d_R_look_122 ?_
        refine lv_if_eq (tgt := 132) hx hb d_R_look_125 rfl (fun h15 => ?_) (fun h15 => ?_)
        · refine lv_iconst (v := 0) hx hb d_R_look_132 (by decide) ?_
          have hP9 := hP.sub (ws' := [(A 20, xc20 Z A (ap_R_look M (p6.2)))]) [0] rfl
          have hD9 := hD.sub (ws' := [(A 20, xc20 Z A (ap_R_look M (p6.2)))]) [0] (by decide) rfl
          exact W.iret hx hb hr (fun t ht hW => ⟨⟨0, (p6.2), rfl, (by rw [F_R_look, ← hz1, F_R_look_k1, ← hj2, F_R_look_k3, ← hu4, F_R_look_k4, if_pos h7, if_neg h8, if_neg h9, if_neg h10, if_neg h12, if_neg h13, if_pos h14, if_pos h15]), xE_at hP9 hK hD9 ht hW⟩, hS.F ht⟩) hS.2.2 d_R_look_133
        · refine lv_iconst (v := 1) hx hb d_R_look_128 (by decide) ?_
          refine lv_goto (tgt := 133) hx hb d_R_look_129 rfl ?_
          have hP9 := hP.sub (ws' := [(A 20, xc20 Z A (ap_R_look M (p6.2)))]) [0] rfl
          have hD9 := hD.sub (ws' := [(A 20, xc20 Z A (ap_R_look M (p6.2)))]) [0] (by decide) rfl
          exact W.iret hx hb hr (fun t ht hW => ⟨⟨1, (p6.2), rfl, (by rw [F_R_look, ← hz1, F_R_look_k1, ← hj2, F_R_look_k3, ← hu4, F_R_look_k4, if_pos h7, if_neg h8, if_neg h9, if_neg h10, if_neg h12, if_neg h13, if_pos h14, if_neg h15]), xE_at hP9 hK hD9 ht hW⟩, hS.F ht⟩) hS.2.2 d_R_look_133
      by_cases h16 : a1 = 6
      · refine lv_tableIn (off := 106) (tgt := 134) hx hb d_R_look_28 (by rw [h16]; decide) (by rw [h16]; decide) (by rw [h16]; decide) rfl ?_
        refine lv_aload_n hx hb d_R_look_134 rfl (lv_at hl 0 rfl) ?_
        refine va_get (D := (dC, dI)) (ci := 10) (v := .long (M.2.1 101)) (C := "CentrifugeUnitModel") (T := xF10) (N := 45) hx hb htt xin10 hown hK hP 0 rfl rfl 18 (by decide) (htt _ tw_797) (fun _ h9 => h9) rfl d_R_look_135 ?_
        refine lv_l2i (v := ((M.2.1 101)).toInt32) hx hb d_R_look_138 rfl ?_
        have hP9 := hP.sub (ws' := [(A 20, xc20 Z A (ap_R_look M (p6.2)))]) [0] rfl
        have hD9 := hD.sub (ws' := [(A 20, xc20 Z A (ap_R_look M (p6.2)))]) [0] (by decide) rfl
        exact W.iret hx hb hr (fun t ht hW => ⟨⟨((M.2.1 101)).toInt32, (p6.2), rfl, (by rw [F_R_look, ← hz1, F_R_look_k1, ← hj2, F_R_look_k3, ← hu4, F_R_look_k4, if_pos h7, if_neg h8, if_neg h9, if_neg h10, if_neg h12, if_neg h13, if_neg h14, if_pos h16]), xE_at hP9 hK hD9 ht hW⟩, hS.F ht⟩) hS.2.2 d_R_look_139
      by_cases h17 : a1 = 7
      · refine lv_tableIn (off := 112) (tgt := 140) hx hb d_R_look_28 (by rw [h17]; decide) (by rw [h17]; decide) (by rw [h17]; decide) rfl ?_
        refine lv_aload_n hx hb d_R_look_140 rfl (lv_at hl 0 rfl) ?_
        refine va_get (D := (dC, dI)) (ci := 10) (v := .long (M.2.1 102)) (C := "CentrifugeUnitModel") (T := xF10) (N := 45) hx hb htt xin10 hown hK hP 0 rfl rfl 19 (by decide) (htt _ tw_798) (fun _ h9 => h9) rfl d_R_look_141 ?_
        refine lv_l2i (v := ((M.2.1 102)).toInt32) hx hb d_R_look_144 rfl ?_
        have hP9 := hP.sub (ws' := [(A 20, xc20 Z A (ap_R_look M (p6.2)))]) [0] rfl
        have hD9 := hD.sub (ws' := [(A 20, xc20 Z A (ap_R_look M (p6.2)))]) [0] (by decide) rfl
        exact W.iret hx hb hr (fun t ht hW => ⟨⟨((M.2.1 102)).toInt32, (p6.2), rfl, (by rw [F_R_look, ← hz1, F_R_look_k1, ← hj2, F_R_look_k3, ← hu4, F_R_look_k4, if_pos h7, if_neg h8, if_neg h9, if_neg h10, if_neg h12, if_neg h13, if_neg h14, if_neg h16, if_pos h17]), xE_at hP9 hK hD9 ht hW⟩, hS.F ht⟩) hS.2.2 d_R_look_145
      by_cases h18 : a1 = 8
      · refine lv_tableIn (off := 118) (tgt := 146) hx hb d_R_look_28 (by rw [h18]; decide) (by rw [h18]; decide) (by rw [h18]; decide) rfl ?_
        refine lv_aload_n hx hb d_R_look_146 rfl (lv_at hl 0 rfl) ?_
        refine va_get (D := (dC, dI)) (ci := 10) (v := .int (M.1 116)) (C := "CentrifugeUnitModel") (T := xF10) (N := 45) hx hb htt xin10 hown hK hP 0 rfl rfl 31 (by decide) (htt _ tw_810) (fun _ h9 => h9) rfl d_R_look_147 ?_
        have hP9 := hP.sub (ws' := [(A 20, xc20 Z A (ap_R_look M (p6.2)))]) [0] rfl
        have hD9 := hD.sub (ws' := [(A 20, xc20 Z A (ap_R_look M (p6.2)))]) [0] (by decide) rfl
        exact W.iret hx hb hr (fun t ht hW => ⟨⟨(M.1 116), (p6.2), rfl, (by rw [F_R_look, ← hz1, F_R_look_k1, ← hj2, F_R_look_k3, ← hu4, F_R_look_k4, if_pos h7, if_neg h8, if_neg h9, if_neg h10, if_neg h12, if_neg h13, if_neg h14, if_neg h16, if_neg h17, if_pos h18]), xE_at hP9 hK hD9 ht hW⟩, hS.F ht⟩) hS.2.2 d_R_look_150
      by_cases h19 : a1 = 9
      · refine lv_tableIn (off := 123) (tgt := 151) hx hb d_R_look_28 (by rw [h19]; decide) (by rw [h19]; decide) (by rw [h19]; decide) rfl ?_
        refine lv_aload_n hx hb d_R_look_151 rfl (lv_at hl 0 rfl) ?_
        have hPc := hP.sub (ws' := [(A 20, xc20 Z A ((va_up M.1 100 (p6.2)), M.2))]) [0] rfl
        have hDc := hD.sub (ws' := [(A 20, xc20 Z A ((va_up M.1 100 (p6.2)), M.2))]) [0] (by decide) rfl
        refine xk_p (va_runV (As := []) (rest := []) ⟨hx, hb, hml, hown, hts⟩ (c_R_atRest l dC dI Z A _ ((va_up M.1 100 (p6.2)), M.2)) (cwV 0 hts (xw_V _ tw_972 tw_974 tp_14 tw_12 tw_975) rfl rfl rfl (by decide +kernel) ⟨Nat.le_of_ble_eq_true rfl, Nat.le_of_ble_eq_true rfl⟩) ⟨xB_blind, va_recv (q0 := 0) (ci := 10) hK hP rfl rfl, fun U hU hW => ⟨rfl, xB_at hPc hK hDc hq U hU hW⟩⟩ rfl rfl hl.1 rfl (lv_room (Nat.le_of_ble_eq_true rfl)) d_R_look_152 ⟨Nat.le_of_ble_eq_true rfl, Nat.le_of_ble_eq_true rfl⟩) ?_
        refine lv_topi (fun z20 hz20 => ?_)
        refine lv_if_eq (tgt := 162) hx hb d_R_look_155 rfl (fun h21 => ?_) (fun h21 => ?_)
        · refine lv_iconst (v := 0) hx hb d_R_look_162 (by decide) ?_
          have hP9 := hP.sub (ws' := [(A 20, xc20 Z A (ap_R_look M (p6.2)))]) [0] rfl
          have hD9 := hD.sub (ws' := [(A 20, xc20 Z A (ap_R_look M (p6.2)))]) [0] (by decide) rfl
          exact W.iret hx hb hr (fun t ht hW => ⟨⟨0, (p6.2), rfl, (by rw [F_R_look, ← hz1, F_R_look_k1, ← hj2, F_R_look_k3, ← hu4, F_R_look_k4, if_pos h7, if_neg h8, if_neg h9, if_neg h10, if_neg h12, if_neg h13, if_neg h14, if_neg h16, if_neg h17, if_neg h18, if_pos h19, ← hz20, F_R_look_k5, if_pos h21]), xE_at hP9 hK hD9 ht hW⟩, hS.F ht⟩) hS.2.2 d_R_look_163
        · refine lv_iconst (v := 1) hx hb d_R_look_158 (by decide) ?_
          refine lv_goto (tgt := 163) hx hb d_R_look_159 rfl ?_
          have hP9 := hP.sub (ws' := [(A 20, xc20 Z A (ap_R_look M (p6.2)))]) [0] rfl
          have hD9 := hD.sub (ws' := [(A 20, xc20 Z A (ap_R_look M (p6.2)))]) [0] (by decide) rfl
          exact W.iret hx hb hr (fun t ht hW => ⟨⟨1, (p6.2), rfl, (by rw [F_R_look, ← hz1, F_R_look_k1, ← hj2, F_R_look_k3, ← hu4, F_R_look_k4, if_pos h7, if_neg h8, if_neg h9, if_neg h10, if_neg h12, if_neg h13, if_neg h14, if_neg h16, if_neg h17, if_neg h18, if_pos h19, ← hz20, F_R_look_k5, if_neg h21]), xE_at hP9 hK hD9 ht hW⟩, hS.F ht⟩) hS.2.2 d_R_look_163
      refine lv_tableOut (tgt := 164) hx hb d_R_look_28 (by have q0 := lv_neT (a := 0) h8 (by decide); have q1 := lv_neT (a := 1) h9 (by decide); have q2 := lv_neT (a := 2) h10 (by decide); have q3 := lv_neT (a := 3) h12 (by decide); have q4 := lv_neT (a := 4) h13 (by decide); have q5 := lv_neT (a := 5) h14 (by decide); have q6 := lv_neT (a := 6) h16 (by decide); have q7 := lv_neT (a := 7) h17 (by decide); have q8 := lv_neT (a := 8) h18 (by decide); have q9 := lv_neT (a := 9) h19 (by decide); omega) rfl ?_
      refine lv_aload_n hx hb d_R_look_164 rfl (lv_at hl 0 rfl) ?_
      refine va_get (D := (dC, dI)) (ci := 10) (v := .long (M.2.1 104)) (C := "CentrifugeUnitModel") (T := xF10) (N := 45) hx hb htt xin10 hown hK hP 0 rfl rfl 26 (by decide) (htt _ tw_805) (fun _ h9 => h9) rfl d_R_look_165 ?_
      refine lv_l2i (v := ((M.2.1 104)).toInt32) hx hb d_R_look_168 rfl ?_
      have hP9 := hP.sub (ws' := [(A 20, xc20 Z A (ap_R_look M (p6.2)))]) [0] rfl
      have hD9 := hD.sub (ws' := [(A 20, xc20 Z A (ap_R_look M (p6.2)))]) [0] (by decide) rfl
      exact W.iret hx hb hr (fun t ht hW => ⟨⟨((M.2.1 104)).toInt32, (p6.2), rfl, (by rw [F_R_look, ← hz1, F_R_look_k1, ← hj2, F_R_look_k3, ← hu4, F_R_look_k4, if_pos h7, if_neg h8, if_neg h9, if_neg h10, if_neg h12, if_neg h13, if_neg h14, if_neg h16, if_neg h17, if_neg h18, if_neg h19]), xE_at hP9 hK hD9 ht hW⟩, hS.F ht⟩) hS.2.2 d_R_look_169
    · refine lv_iconst (v := 0) hx hb d_R_look_25 (by decide) ?_
      have hP9 := hP.sub (ws' := [(A 20, xc20 Z A (ap_R_look M (p6.2)))]) [0] rfl
      have hD9 := hD.sub (ws' := [(A 20, xc20 Z A (ap_R_look M (p6.2)))]) [0] (by decide) rfl
      exact W.iret hx hb hr (fun t ht hW => ⟨⟨0, (p6.2), rfl, (by rw [F_R_look, ← hz1, F_R_look_k1, ← hj2, F_R_look_k3, ← hu4, F_R_look_k4, if_neg h7]), xE_at hP9 hK hD9 ht hW⟩, hS.F ht⟩) hS.2.2 d_R_look_26
