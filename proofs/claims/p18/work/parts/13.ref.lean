set_option maxRecDepth 20000 in
theorem tp_12 : Cond.selects "CentrifugeUnitModel" ⟨"CentrifugeUnitModel", "throwing", "(ZZ)Z"⟩ ⟨"CentrifugeUnitModel", "throwing", "(ZZ)Z"⟩ ∈ xw := xw_of (List.mem_append_left _ (List.mem_of_getElem? (i := 12) (by decide +kernel))) rfl
set_option maxRecDepth 20000 in
theorem tp_13 : Cond.selects "CentrifugeUnitModel" ⟨"CentrifugeUnitModel", "isLocked", "()Z"⟩ ⟨"CentrifugeUnitModel", "isLocked", "()Z"⟩ ∈ xw := xw_of (List.mem_append_left _ (List.mem_of_getElem? (i := 13) (by decide +kernel))) rfl
set_option maxRecDepth 20000 in
theorem tp_14 : Cond.selects "CentrifugeUnitModel" ⟨"CentrifugeUnitModel", "atRest", "()Z"⟩ ⟨"CentrifugeUnitModel", "atRest", "()Z"⟩ ∈ xw := xw_of (List.mem_append_left _ (List.mem_of_getElem? (i := 14) (by decide +kernel))) rfl
set_option maxRecDepth 20000 in
theorem tw_12 : Cond.initialized "CentrifugeUnitModel" ∈ xw := xw_of (List.mem_append_right _ (List.mem_of_getElem? (i := 12) (by decide +kernel))) rfl
set_option maxRecDepth 20000 in
theorem tw_779 : Cond.fieldLink "CentrifugeUnitModel" 68 "CentrifugeUnitModel" "thrown" "I" ∈ xw := xw_of (List.mem_append_right _ (List.mem_of_getElem? (i := 779) (by decide +kernel))) rfl
set_option maxRecDepth 20000 in
theorem tw_785 : Cond.fieldLink "CentrifugeUnitModel" 26 "CentrifugeUnitModel" "inside" "I" ∈ xw := xw_of (List.mem_append_right _ (List.mem_of_getElem? (i := 785) (by decide +kernel))) rfl
set_option maxRecDepth 20000 in
theorem tw_789 : Cond.fieldLink "CentrifugeUnitModel" 120 "CentrifugeUnitModel" "segments" "I" ∈ xw := xw_of (List.mem_append_right _ (List.mem_of_getElem? (i := 789) (by decide +kernel))) rfl
set_option maxRecDepth 20000 in
theorem tw_790 : Cond.fieldLink "CentrifugeUnitModel" 180 "CentrifugeUnitModel" "speed" "J" ∈ xw := xw_of (List.mem_append_right _ (List.mem_of_getElem? (i := 790) (by decide +kernel))) rfl
set_option maxRecDepth 20000 in
theorem tw_791 : Cond.fieldLink "CentrifugeUnitModel" 171 "CentrifugeUnitModel" "drive" "I" ∈ xw := xw_of (List.mem_append_right _ (List.mem_of_getElem? (i := 791) (by decide +kernel))) rfl
set_option maxRecDepth 20000 in
theorem tw_792 : Cond.fieldLink "CentrifugeUnitModel" 174 "CentrifugeUnitModel" "brake" "I" ∈ xw := xw_of (List.mem_append_right _ (List.mem_of_getElem? (i := 792) (by decide +kernel))) rfl
set_option maxRecDepth 20000 in
theorem tw_793 : Cond.fieldLink "CentrifugeUnitModel" 177 "CentrifugeUnitModel" "fed" "Z" ∈ xw := xw_of (List.mem_append_right _ (List.mem_of_getElem? (i := 793) (by decide +kernel))) rfl
set_option maxRecDepth 20000 in
theorem tw_794 : Cond.fieldLink "CentrifugeUnitModel" 155 "CentrifugeUnitModel" "coil" "I" ∈ xw := xw_of (List.mem_append_right _ (List.mem_of_getElem? (i := 794) (by decide +kernel))) rfl
set_option maxRecDepth 20000 in
theorem tw_795 : Cond.fieldLink "CentrifugeUnitModel" 39 "CentrifugeUnitModel" "tacho" "I" ∈ xw := xw_of (List.mem_append_right _ (List.mem_of_getElem? (i := 795) (by decide +kernel))) rfl
set_option maxRecDepth 20000 in
theorem tw_796 : Cond.fieldLink "CentrifugeUnitModel" 42 "CentrifugeUnitModel" "counter" "I" ∈ xw := xw_of (List.mem_append_right _ (List.mem_of_getElem? (i := 796) (by decide +kernel))) rfl
set_option maxRecDepth 20000 in
theorem tw_799 : Cond.fieldLink "CentrifugeUnitModel" 195 "CentrifugeUnitModel" "used" "J" ∈ xw := xw_of (List.mem_append_right _ (List.mem_of_getElem? (i := 799) (by decide +kernel))) rfl
set_option maxRecDepth 20000 in
theorem tw_800 : Cond.fieldLink "CentrifugeUnitModel" 45 "CentrifugeUnitModel" "power" "Z" ∈ xw := xw_of (List.mem_append_right _ (List.mem_of_getElem? (i := 800) (by decide +kernel))) rfl
set_option maxRecDepth 20000 in
theorem tw_801 : Cond.fieldLink "CentrifugeUnitModel" 95 "CentrifugeUnitModel" "state" "I" ∈ xw := xw_of (List.mem_append_right _ (List.mem_of_getElem? (i := 801) (by decide +kernel))) rfl
set_option maxRecDepth 20000 in
theorem tw_802 : Cond.fieldLink "CentrifugeUnitModel" 127 "CentrifugeUnitModel" "reason" "I" ∈ xw := xw_of (List.mem_append_right _ (List.mem_of_getElem? (i := 802) (by decide +kernel))) rfl
set_option maxRecDepth 20000 in
theorem tw_803 : Cond.fieldLink "CentrifugeUnitModel" 140 "CentrifugeUnitModel" "segment" "I" ∈ xw := xw_of (List.mem_append_right _ (List.mem_of_getElem? (i := 803) (by decide +kernel))) rfl
set_option maxRecDepth 20000 in
theorem tw_804 : Cond.fieldLink "CentrifugeUnitModel" 143 "CentrifugeUnitModel" "passed" "I" ∈ xw := xw_of (List.mem_append_right _ (List.mem_of_getElem? (i := 804) (by decide +kernel))) rfl
set_option maxRecDepth 20000 in
theorem tw_805 : Cond.fieldLink "CentrifugeUnitModel" 146 "CentrifugeUnitModel" "goal" "J" ∈ xw := xw_of (List.mem_append_right _ (List.mem_of_getElem? (i := 805) (by decide +kernel))) rfl
set_option maxRecDepth 20000 in
theorem tw_806 : Cond.fieldLink "CentrifugeUnitModel" 130 "CentrifugeUnitModel" "dose" "J" ∈ xw := xw_of (List.mem_append_right _ (List.mem_of_getElem? (i := 806) (by decide +kernel))) rfl
set_option maxRecDepth 20000 in
theorem tw_807 : Cond.fieldLink "CentrifugeUnitModel" 134 "CentrifugeUnitModel" "sum" "J" ∈ xw := xw_of (List.mem_append_right _ (List.mem_of_getElem? (i := 807) (by decide +kernel))) rfl
set_option maxRecDepth 20000 in
theorem tw_808 : Cond.fieldLink "CentrifugeUnitModel" 137 "CentrifugeUnitModel" "any" "Z" ∈ xw := xw_of (List.mem_append_right _ (List.mem_of_getElem? (i := 808) (by decide +kernel))) rfl
set_option maxRecDepth 20000 in
theorem tw_810 : Cond.fieldLink "CentrifugeUnitModel" 49 "CentrifugeUnitModel" "rotor" "I" ∈ xw := xw_of (List.mem_append_right _ (List.mem_of_getElem? (i := 810) (by decide +kernel))) rfl
set_option maxRecDepth 20000 in
theorem tw_812 : Cond.fieldLink "CentrifugeUnitModel" 74 "CentrifugeUnitModel" "resting" "I" ∈ xw := xw_of (List.mem_append_right _ (List.mem_of_getElem? (i := 812) (by decide +kernel))) rfl
set_option maxRecDepth 20000 in
theorem tw_813 : Cond.fieldLink "CentrifugeUnitModel" 165 "CentrifugeUnitModel" "shaking" "I" ∈ xw := xw_of (List.mem_append_right _ (List.mem_of_getElem? (i := 813) (by decide +kernel))) rfl
set_option maxRecDepth 20000 in
theorem tw_814 : Cond.fieldLink "CentrifugeUnitModel" 168 "CentrifugeUnitModel" "apart" "I" ∈ xw := xw_of (List.mem_append_right _ (List.mem_of_getElem? (i := 814) (by decide +kernel))) rfl
set_option maxRecDepth 20000 in
theorem tw_815 : Cond.fieldLink "CentrifugeUnitModel" 52 "CentrifugeUnitModel" "contactA" "Z" ∈ xw := xw_of (List.mem_append_right _ (List.mem_of_getElem? (i := 815) (by decide +kernel))) rfl
set_option maxRecDepth 20000 in
theorem tw_816 : Cond.fieldLink "CentrifugeUnitModel" 71 "CentrifugeUnitModel" "contactB" "Z" ∈ xw := xw_of (List.mem_append_right _ (List.mem_of_getElem? (i := 816) (by decide +kernel))) rfl
set_option maxRecDepth 20000 in
theorem tw_817 : Cond.fieldLink "CentrifugeUnitModel" 158 "CentrifugeUnitModel" "level" "I" ∈ xw := xw_of (List.mem_append_right _ (List.mem_of_getElem? (i := 817) (by decide +kernel))) rfl
set_option maxRecDepth 20000 in
theorem tw_818 : Cond.fieldLink "CentrifugeUnitModel" 55 "CentrifugeUnitModel" "chamber" "I" ∈ xw := xw_of (List.mem_append_right _ (List.mem_of_getElem? (i := 818) (by decide +kernel))) rfl
set_option maxRecDepth 20000 in
theorem tw_819 : Cond.fieldLink "CentrifugeUnitModel" 149 "CentrifugeUnitModel" "greatest" "J" ∈ xw := xw_of (List.mem_append_right _ (List.mem_of_getElem? (i := 819) (by decide +kernel))) rfl
set_option maxRecDepth 20000 in
theorem tw_924 : Cond.constantLong "CentrifugeUnitModel" 77 (3 : Int64) ∈ xw := xw_of (List.mem_append_right _ (List.mem_of_getElem? (i := 924) (by decide +kernel))) rfl
set_option maxRecDepth 20000 in
theorem tw_925 : Cond.methodLink "CentrifugeUnitModel" 79 ⟨"CentrifugeUnitModel", "in", "(JJJ)Z"⟩ ∈ xw := xw_of (List.mem_append_right _ (List.mem_of_getElem? (i := 925) (by decide +kernel))) rfl
set_option maxRecDepth 20000 in
theorem tw_926 : Cond.static ⟨"CentrifugeUnitModel", "in", "(JJJ)Z"⟩ ∈ xw := xw_of (List.mem_append_right _ (List.mem_of_getElem? (i := 926) (by decide +kernel))) rfl
set_option maxRecDepth 20000 in
theorem tw_927 : Cond.code ⟨"CentrifugeUnitModel", "in", "(JJJ)Z"⟩ prog_12_method_4_code 6 (Option.some Jvm.ClassFile.FieldType.boolean) ∈ xw := xw_of (List.mem_append_right _ (List.mem_of_getElem? (i := 927) (by decide +kernel))) rfl
set_option maxRecDepth 20000 in
theorem tw_931 : Cond.constantLong "CentrifugeUnitModel" 89 (100 : Int64) ∈ xw := xw_of (List.mem_append_right _ (List.mem_of_getElem? (i := 931) (by decide +kernel))) rfl
set_option maxRecDepth 20000 in
theorem tw_932 : Cond.constantLong "CentrifugeUnitModel" 91 (20000 : Int64) ∈ xw := xw_of (List.mem_append_right _ (List.mem_of_getElem? (i := 932) (by decide +kernel))) rfl
set_option maxRecDepth 20000 in
theorem tw_934 : Cond.methodLink "CentrifugeUnitModel" 98 ⟨"CentrifugeUnitModel", "throwing", "(ZZ)Z"⟩ ∈ xw := xw_of (List.mem_append_right _ (List.mem_of_getElem? (i := 934) (by decide +kernel))) rfl
set_option maxRecDepth 20000 in
theorem tw_936 : Cond.instanceMethod ⟨"CentrifugeUnitModel", "throwing", "(ZZ)Z"⟩ ∈ xw := xw_of (List.mem_append_right _ (List.mem_of_getElem? (i := 936) (by decide +kernel))) rfl
set_option maxRecDepth 20000 in
theorem tw_937 : Cond.code ⟨"CentrifugeUnitModel", "throwing", "(ZZ)Z"⟩ prog_12_method_3_code 3 (Option.some Jvm.ClassFile.FieldType.boolean) ∈ xw := xw_of (List.mem_append_right _ (List.mem_of_getElem? (i := 937) (by decide +kernel))) rfl
set_option maxRecDepth 20000 in
theorem tw_942 : Cond.constantLong "CentrifugeUnitModel" 102 (-1 : Int64) ∈ xw := xw_of (List.mem_append_right _ (List.mem_of_getElem? (i := 942) (by decide +kernel))) rfl
set_option maxRecDepth 20000 in
theorem tw_950 : Cond.constantLong "CentrifugeUnitModel" 104 (500 : Int64) ∈ xw := xw_of (List.mem_append_right _ (List.mem_of_getElem? (i := 950) (by decide +kernel))) rfl
set_option maxRecDepth 20000 in
theorem tw_951 : Cond.constantLong "CentrifugeUnitModel" 106 (100000 : Int64) ∈ xw := xw_of (List.mem_append_right _ (List.mem_of_getElem? (i := 951) (by decide +kernel))) rfl
set_option maxRecDepth 20000 in
theorem tw_952 : Cond.constantLong "CentrifugeUnitModel" 108 (1000000 : Int64) ∈ xw := xw_of (List.mem_append_right _ (List.mem_of_getElem? (i := 952) (by decide +kernel))) rfl
set_option maxRecDepth 20000 in
theorem tw_953 : Cond.constantLong "CentrifugeUnitModel" 110 (9 : Int64) ∈ xw := xw_of (List.mem_append_right _ (List.mem_of_getElem? (i := 953) (by decide +kernel))) rfl
set_option maxRecDepth 20000 in
theorem tw_954 : Cond.constantLong "CentrifugeUnitModel" 112 (-2000 : Int64) ∈ xw := xw_of (List.mem_append_right _ (List.mem_of_getElem? (i := 954) (by decide +kernel))) rfl
set_option maxRecDepth 20000 in
theorem tw_955 : Cond.constantLong "CentrifugeUnitModel" 114 (4000 : Int64) ∈ xw := xw_of (List.mem_append_right _ (List.mem_of_getElem? (i := 955) (by decide +kernel))) rfl
set_option maxRecDepth 20000 in
theorem tw_960 : Cond.methodLink "CentrifugeUnitModel" 123 ⟨"CentrifugeUnitModel", "isLocked", "()Z"⟩ ∈ xw := xw_of (List.mem_append_right _ (List.mem_of_getElem? (i := 960) (by decide +kernel))) rfl
set_option maxRecDepth 20000 in
theorem tw_962 : Cond.instanceMethod ⟨"CentrifugeUnitModel", "isLocked", "()Z"⟩ ∈ xw := xw_of (List.mem_append_right _ (List.mem_of_getElem? (i := 962) (by decide +kernel))) rfl
set_option maxRecDepth 20000 in
theorem tw_963 : Cond.code ⟨"CentrifugeUnitModel", "isLocked", "()Z"⟩ prog_12_method_5_code 1 (Option.some Jvm.ClassFile.FieldType.boolean) ∈ xw := xw_of (List.mem_append_right _ (List.mem_of_getElem? (i := 963) (by decide +kernel))) rfl
set_option maxRecDepth 20000 in
theorem tw_972 : Cond.methodLink "CentrifugeUnitModel" 152 ⟨"CentrifugeUnitModel", "atRest", "()Z"⟩ ∈ xw := xw_of (List.mem_append_right _ (List.mem_of_getElem? (i := 972) (by decide +kernel))) rfl
set_option maxRecDepth 20000 in
theorem tw_974 : Cond.instanceMethod ⟨"CentrifugeUnitModel", "atRest", "()Z"⟩ ∈ xw := xw_of (List.mem_append_right _ (List.mem_of_getElem? (i := 974) (by decide +kernel))) rfl
set_option maxRecDepth 20000 in
theorem tw_975 : Cond.code ⟨"CentrifugeUnitModel", "atRest", "()Z"⟩ prog_12_method_6_code 1 (Option.some Jvm.ClassFile.FieldType.boolean) ∈ xw := xw_of (List.mem_append_right _ (List.mem_of_getElem? (i := 975) (by decide +kernel))) rfl
set_option maxRecDepth 20000 in
theorem tw_988 : Cond.constantLong "CentrifugeUnitModel" 161 (-10000 : Int64) ∈ xw := xw_of (List.mem_append_right _ (List.mem_of_getElem? (i := 988) (by decide +kernel))) rfl
set_option maxRecDepth 20000 in
theorem tw_989 : Cond.constantLong "CentrifugeUnitModel" 163 (10000 : Int64) ∈ xw := xw_of (List.mem_append_right _ (List.mem_of_getElem? (i := 989) (by decide +kernel))) rfl
set_option maxRecDepth 20000 in
theorem tw_1014 : Cond.constantLong "CentrifugeUnitModel" 198 (200 : Int64) ∈ xw := xw_of (List.mem_append_right _ (List.mem_of_getElem? (i := 1014) (by decide +kernel))) rfl
set_option maxRecDepth 20000 in
theorem tw_1034 : Cond.constantLong "CentrifugeUnitModel" 216 (40 : Int64) ∈ xw := xw_of (List.mem_append_right _ (List.mem_of_getElem? (i := 1034) (by decide +kernel))) rfl
set_option maxRecDepth 20000 in
theorem tw_1035 : Cond.constantLong "CentrifugeUnitModel" 218 (4 : Int64) ∈ xw := xw_of (List.mem_append_right _ (List.mem_of_getElem? (i := 1035) (by decide +kernel))) rfl
abbrev bc_R_thrown : ByteArray := prog_12_method_2_code
def y_R_thrown : MethodName := ⟨"CentrifugeUnitModel", "thrown", "()I"⟩
theorem d_R_thrown_0 : decode bc_R_thrown 0 = .ok (.aload_n 0, 1) := by decide +kernel
theorem d_R_thrown_1 : decode bc_R_thrown 1 = .ok (.getfield 68, 3) := by decide +kernel
theorem d_R_thrown_4 : decode bc_R_thrown 4 = .ok (.ireturn, 1) := by decide +kernel
def F_R_thrown (M : XM) : Int32 := (M.1 100)
set_option maxHeartbeats 4000000 in
set_option maxRecDepth 100000 in
theorem c_R_thrown (l : Launch) (dC : Nat → ClassId) (dI : Nat → Nat → Nat) (Z : Nat → ClassId) (A : Nat → Nat) (sz : Nat) (M : XM) : Met l y_R_thrown (.code y_R_thrown bc_R_thrown 1 (some .int) :: xw) ({ frames := 0, cells := 0, slots := 0, locals := 0 }) (va_Pc [.ref (A 20)] (xB (dC, dI) xcl (xty Z) sz [(A 20, xc20 Z A M)])) (k2_QcV (.int (F_R_thrown M))) 0 0 (fun _ => False) := by
  refine Met.ofW (cc := bc_R_thrown) (maxL := 1) (ret := (some .int)) (by decide) rfl ?_
  intro p e s m args below meth c s₁ B hml hv
  obtain ⟨rfl, hsz, hP, hK, hD0, hq⟩ := hv
  have hx := B.exec
  have hb := B.bytes
  have hr := B.returns
  have hts := atoms_spec (ws := (.code y_R_thrown bc_R_thrown 1 (some .int) :: xw)) B.pre
  have htt : ∀ w ∈ xw, w.before _ s = true := fun w h => hts w (List.mem_cons_of_mem _ h)
  have hown : s.vm.findClass "CentrifugeUnitModel" = some m.cls := findClass_of_methodNamed B.named
  have hlocks := B.notSynchronized
  subst hsz
  have hD : va_D (fun _ => True) [(A 20, .inr (10, [.int (M.1 100), .ref (A 21), .ref (A 22), .ref (A 23), .ref (A 24), .ref (A 25), .int (M.1 101), .ref (A 26), .ref (A 27), .ref (A 28), .int (M.1 102), .long (M.2.1 100), .int (M.1 103), .int (M.1 104), .int (M.1 105), .int (M.1 106), .int (M.1 107), .int (M.1 108), .long (M.2.1 101), .long (M.2.1 102), .long (M.2.1 103), .int (M.1 109), .int (M.1 110), .int (M.1 111), .int (M.1 112), .int (M.1 113), .long (M.2.1 104), .long (M.2.1 105), .long (M.2.1 106), .int (M.1 114), .int (M.1 115), .int (M.1 116), .int (M.1 117), .int (M.1 118), .int (M.1 119), .int (M.1 120), .int (M.1 121), .int (M.1 122), .int (M.1 123), .int (M.1 124), .long (M.2.1 107), .int (M.1 125), .ref (A 29), .ref (A 30), .ref (A 31)]))] := hD0
  have hP : va_P (dC, dI) xcl [(A 20, .inr (10, [.int (M.1 100), .ref (A 21), .ref (A 22), .ref (A 23), .ref (A 24), .ref (A 25), .int (M.1 101), .ref (A 26), .ref (A 27), .ref (A 28), .int (M.1 102), .long (M.2.1 100), .int (M.1 103), .int (M.1 104), .int (M.1 105), .int (M.1 106), .int (M.1 107), .int (M.1 108), .long (M.2.1 101), .long (M.2.1 102), .long (M.2.1 103), .int (M.1 109), .int (M.1 110), .int (M.1 111), .int (M.1 112), .int (M.1 113), .long (M.2.1 104), .long (M.2.1 105), .long (M.2.1 106), .int (M.1 114), .int (M.1 115), .int (M.1 116), .int (M.1 117), .int (M.1 118), .int (M.1 119), .int (M.1 120), .int (M.1 121), .int (M.1 122), .int (M.1 123), .int (M.1 124), .long (M.2.1 107), .int (M.1 125), .ref (A 29), .ref (A 30), .ref (A 31)]))] s.heap := hP
  have hl := lv_entry ([.ref (A 20)]) (n := 1) (Nat.le_of_ble_eq_true rfl)
  rw [lg_entry_eq]
  generalize (lg_sl ([.ref (A 20)]) ++ List.replicate (1 - (lg_sl ([.ref (A 20)])).length) Slot.unset).toArray = ls at hl ⊢
  have hl : lv_has ls 1 [(0, .ref (A 20))] := hl
  refine lv_aload_n hx hb d_R_thrown_0 rfl (lv_at hl 0 rfl) ?_
  refine va_get (D := (dC, dI)) (ci := 10) (v := .int (M.1 100)) (C := "CentrifugeUnitModel") (T := xF10) (N := 45) hx hb htt xin10 hown hK hP 0 rfl rfl 0 (by decide) (htt _ tw_779) (fun _ h9 => h9) rfl d_R_thrown_1 ?_
  exact W.iret hx hb hr (fun t ht hW => ⟨(by rw [F_R_thrown]), ht⟩) (fun _ h => absurd h List.not_mem_nil) d_R_thrown_4
abbrev bc_R_throwing : ByteArray := prog_12_method_3_code
def y_R_throwing : MethodName := ⟨"CentrifugeUnitModel", "throwing", "(ZZ)Z"⟩
theorem d_R_throwing_0 : decode bc_R_throwing 0 = .ok (.aload_n 0, 1) := by decide +kernel
theorem d_R_throwing_1 : decode bc_R_throwing 1 = .ok (.iload_n 1, 1) := by decide +kernel
theorem d_R_throwing_2 : decode bc_R_throwing 2 = .ok (.ifCond .eq 7, 3) := by decide +kernel
theorem d_R_throwing_5 : decode bc_R_throwing 5 = .ok (.iconst 1, 1) := by decide +kernel
theorem d_R_throwing_6 : decode bc_R_throwing 6 = .ok (.goto 12, 3) := by decide +kernel
theorem d_R_throwing_9 : decode bc_R_throwing 9 = .ok (.iload_n 2, 1) := by decide +kernel
theorem d_R_throwing_10 : decode bc_R_throwing 10 = .ok (.ifCond .eq 7, 3) := by decide +kernel
theorem d_R_throwing_13 : decode bc_R_throwing 13 = .ok (.iconst 2, 1) := by decide +kernel
theorem d_R_throwing_14 : decode bc_R_throwing 14 = .ok (.goto 4, 3) := by decide +kernel
theorem d_R_throwing_17 : decode bc_R_throwing 17 = .ok (.iconst 0, 1) := by decide +kernel
theorem d_R_throwing_18 : decode bc_R_throwing 18 = .ok (.putfield 68, 3) := by decide +kernel
theorem d_R_throwing_21 : decode bc_R_throwing 21 = .ok (.aload_n 0, 1) := by decide +kernel
theorem d_R_throwing_22 : decode bc_R_throwing 22 = .ok (.getfield 68, 3) := by decide +kernel
theorem d_R_throwing_25 : decode bc_R_throwing 25 = .ok (.ifCond .le 7, 3) := by decide +kernel
theorem d_R_throwing_28 : decode bc_R_throwing 28 = .ok (.iconst 1, 1) := by decide +kernel
theorem d_R_throwing_29 : decode bc_R_throwing 29 = .ok (.goto 4, 3) := by decide +kernel
theorem d_R_throwing_32 : decode bc_R_throwing 32 = .ok (.iconst 0, 1) := by decide +kernel
theorem d_R_throwing_33 : decode bc_R_throwing 33 = .ok (.ireturn, 1) := by decide +kernel
abbrev ap_R_throwing (M : XM) (u : Int32) : XM := ((va_up M.1 100 u), M.2)
def F_R_throwing_k2 (M : XM) (a1 : Int32) (a2 : Int32) (j1 : Int32) : Int32 × Int32 := (if j1 ≤ 0 then (0, j1) else (1, j1))
def F_R_throwing_j1 (M : XM) (a1 : Int32) (a2 : Int32) : Int32 := (if a1 = 0 then (if a2 = 0 then 0 else 2) else 1)
def F_R_throwing (M : XM) (a1 : Int32) (a2 : Int32) : Int32 × Int32 := (F_R_throwing_k2 M a1 a2 (F_R_throwing_j1 M a1 a2))
theorem f01_R_throwing (M : XM) (a1 : Int32) (a2 : Int32) : (F_R_throwing M a1 a2).1 = 0 ∨ (F_R_throwing M a1 a2).1 = 1 := by
  simp only [F_R_throwing_k2, F_R_throwing_j1, F_R_throwing]; repeat' split
  all_goals first | exact Or.inl rfl | exact Or.inr rfl | simp
set_option maxHeartbeats 4000000 in
set_option maxRecDepth 100000 in
theorem c_R_throwing (l : Launch) (dC : Nat → ClassId) (dI : Nat → Nat → Nat) (Z : Nat → ClassId) (A : Nat → Nat) (sz : Nat) (M : XM) (a1 : Int32) (a2 : Int32) : Met l y_R_throwing (.code y_R_throwing bc_R_throwing 3 (some .boolean) :: xw) ({ frames := 0, cells := 0, slots := 0, locals := 0 }) (va_Pc [.ref (A 20), .int a1, .int a2] (xB (dC, dI) xcl (xty Z) sz [(A 20, xc20 Z A M)])) (va_Qi (fun (r : Int32) (u : Int32) => (r, u) = F_R_throwing M a1 a2) (fun u => xE (dC, dI) xcl (xty Z) (va_A [(A 20, xc20 Z A M)] sz) [(A 20, xc20 Z A (ap_R_throwing M u))]) (va_A [(A 20, xc20 Z A M)] sz)) 0 0 (va_A [(A 20, xc20 Z A M)] sz) := by
  refine Met.ofW (cc := bc_R_throwing) (maxL := 3) (ret := (some .boolean)) (by decide) rfl ?_
  intro p e s m args below meth c s₁ B hml hv
  obtain ⟨rfl, hsz, hP, hK, hD0, hq⟩ := hv
  have hx := B.exec
  have hb := B.bytes
  have hr := B.returns
  have hts := atoms_spec (ws := (.code y_R_throwing bc_R_throwing 3 (some .boolean) :: xw)) B.pre
  have htt : ∀ w ∈ xw, w.before _ s = true := fun w h => hts w (List.mem_cons_of_mem _ h)
  have hown : s.vm.findClass "CentrifugeUnitModel" = some m.cls := findClass_of_methodNamed B.named
  have hlocks := B.notSynchronized
  subst hsz
  have hD := hD0.self (sz := s.heap.size)
  generalize hAe : va_A [(A 20, xc20 Z A M)] s.heap.size = AA at hD ⊢
  have hA : ∀ q : Nat, s.heap.size ≤ q → AA q := fun q h => by rw [← hAe]; exact Or.inr h
  have hS : va_S AA s.heap s.heap [] := va_S.rf
  have hP : va_P (dC, dI) xcl [(A 20, .inr (10, [.int (M.1 100), .ref (A 21), .ref (A 22), .ref (A 23), .ref (A 24), .ref (A 25), .int (M.1 101), .ref (A 26), .ref (A 27), .ref (A 28), .int (M.1 102), .long (M.2.1 100), .int (M.1 103), .int (M.1 104), .int (M.1 105), .int (M.1 106), .int (M.1 107), .int (M.1 108), .long (M.2.1 101), .long (M.2.1 102), .long (M.2.1 103), .int (M.1 109), .int (M.1 110), .int (M.1 111), .int (M.1 112), .int (M.1 113), .long (M.2.1 104), .long (M.2.1 105), .long (M.2.1 106), .int (M.1 114), .int (M.1 115), .int (M.1 116), .int (M.1 117), .int (M.1 118), .int (M.1 119), .int (M.1 120), .int (M.1 121), .int (M.1 122), .int (M.1 123), .int (M.1 124), .long (M.2.1 107), .int (M.1 125), .ref (A 29), .ref (A 30), .ref (A 31)]))] s.heap := hP
  have hD : va_D AA [(A 20, .inr (10, [.int (M.1 100), .ref (A 21), .ref (A 22), .ref (A 23), .ref (A 24), .ref (A 25), .int (M.1 101), .ref (A 26), .ref (A 27), .ref (A 28), .int (M.1 102), .long (M.2.1 100), .int (M.1 103), .int (M.1 104), .int (M.1 105), .int (M.1 106), .int (M.1 107), .int (M.1 108), .long (M.2.1 101), .long (M.2.1 102), .long (M.2.1 103), .int (M.1 109), .int (M.1 110), .int (M.1 111), .int (M.1 112), .int (M.1 113), .long (M.2.1 104), .long (M.2.1 105), .long (M.2.1 106), .int (M.1 114), .int (M.1 115), .int (M.1 116), .int (M.1 117), .int (M.1 118), .int (M.1 119), .int (M.1 120), .int (M.1 121), .int (M.1 122), .int (M.1 123), .int (M.1 124), .long (M.2.1 107), .int (M.1 125), .ref (A 29), .ref (A 30), .ref (A 31)]))] := hD
  have hl := lv_entry ([.ref (A 20), .int a1, .int a2]) (n := 3) (Nat.le_of_ble_eq_true rfl)
  rw [lg_entry_eq]
  generalize (lg_sl ([.ref (A 20), .int a1, .int a2]) ++ List.replicate (3 - (lg_sl ([.ref (A 20), .int a1, .int a2])).length) Slot.unset).toArray = ls at hl ⊢
  have hl : lv_has ls 3 [(0, .ref (A 20)), (1, .int a1), (2, .int a2)] := hl
  refine lv_aload_n hx hb d_R_throwing_0 rfl (lv_at hl 0 rfl) ?_
  refine lv_iload_n hx hb d_R_throwing_1 rfl (lv_at hl 1 rfl) ?_
  refine xj_p 3 18 (fun q9 : Int32 => [(0, .ref (A 20)), (1, .int a1), (2, .int a2)]) (fun q9 : Int32 => [.int q9, .ref (A 20)]) (fun q9 : Int32 => q9 = F_R_throwing_j1 M a1 a2) (fun hJ2 => ?_) (fun ls j1 hl hj1 => ?_)
  · refine lv_if_eq (tgt := 9) hx hb d_R_throwing_2 rfl (fun h4 => ?_) (fun h4 => ?_)
    · refine lv_iload_n hx hb d_R_throwing_9 rfl (lv_at hl 2 rfl) ?_
      refine lv_if_eq (tgt := 17) hx hb d_R_throwing_10 rfl (fun h5 => ?_) (fun h5 => ?_)
      · refine lv_iconst (v := 0) hx hb d_R_throwing_17 (by decide) ?_
        exact hJ2 _ 0 (lv_sub hl [0, 1, 2] rfl) (by rw [F_R_throwing_j1, if_pos h4, if_pos h5])
      · refine lv_iconst (v := 2) hx hb d_R_throwing_13 (by decide) ?_
        refine lv_goto (tgt := 18) hx hb d_R_throwing_14 rfl ?_
        exact hJ2 _ 2 (lv_sub hl [0, 1, 2] rfl) (by rw [F_R_throwing_j1, if_pos h4, if_neg h5])
    · refine lv_iconst (v := 1) hx hb d_R_throwing_5 (by decide) ?_
      refine lv_goto (tgt := 18) hx hb d_R_throwing_6 rfl ?_
      exact hJ2 _ 1 (lv_sub hl [0, 1, 2] rfl) (by rw [F_R_throwing_j1, if_neg h4])
  · refine va_put (D := (dC, dI)) (ci := 10) (v := .int j1) (ty := .int) (C := "CentrifugeUnitModel") (T := xF10) (N := 45) hx hb htt xin10 xT10 xTo10 xNm10 hown hK hP hD hS 0 rfl rfl 0 (by decide) (htt _ tw_779) (fun _ h9 => h9) rfl (by decide +kernel) rfl rfl (Nat.le_of_ble_eq_true rfl) d_R_throwing_18 (fun H locs hP hD hS => ?_)
    have hP : va_P (dC, dI) xcl [(A 20, .inr (10, [.int j1, .ref (A 21), .ref (A 22), .ref (A 23), .ref (A 24), .ref (A 25), .int (M.1 101), .ref (A 26), .ref (A 27), .ref (A 28), .int (M.1 102), .long (M.2.1 100), .int (M.1 103), .int (M.1 104), .int (M.1 105), .int (M.1 106), .int (M.1 107), .int (M.1 108), .long (M.2.1 101), .long (M.2.1 102), .long (M.2.1 103), .int (M.1 109), .int (M.1 110), .int (M.1 111), .int (M.1 112), .int (M.1 113), .long (M.2.1 104), .long (M.2.1 105), .long (M.2.1 106), .int (M.1 114), .int (M.1 115), .int (M.1 116), .int (M.1 117), .int (M.1 118), .int (M.1 119), .int (M.1 120), .int (M.1 121), .int (M.1 122), .int (M.1 123), .int (M.1 124), .long (M.2.1 107), .int (M.1 125), .ref (A 29), .ref (A 30), .ref (A 31)]))] H := hP
    have hD : va_D AA [(A 20, .inr (10, [.int j1, .ref (A 21), .ref (A 22), .ref (A 23), .ref (A 24), .ref (A 25), .int (M.1 101), .ref (A 26), .ref (A 27), .ref (A 28), .int (M.1 102), .long (M.2.1 100), .int (M.1 103), .int (M.1 104), .int (M.1 105), .int (M.1 106), .int (M.1 107), .int (M.1 108), .long (M.2.1 101), .long (M.2.1 102), .long (M.2.1 103), .int (M.1 109), .int (M.1 110), .int (M.1 111), .int (M.1 112), .int (M.1 113), .long (M.2.1 104), .long (M.2.1 105), .long (M.2.1 106), .int (M.1 114), .int (M.1 115), .int (M.1 116), .int (M.1 117), .int (M.1 118), .int (M.1 119), .int (M.1 120), .int (M.1 121), .int (M.1 122), .int (M.1 123), .int (M.1 124), .long (M.2.1 107), .int (M.1 125), .ref (A 29), .ref (A 30), .ref (A 31)]))] := hD
    refine lv_aload_n hx hb d_R_throwing_21 rfl (lv_at hl 0 rfl) ?_
    refine va_get (D := (dC, dI)) (ci := 10) (v := .int j1) (C := "CentrifugeUnitModel") (T := xF10) (N := 45) hx hb htt xin10 hown hK hP 0 rfl rfl 0 (by decide) (htt _ tw_779) (fun _ h9 => h9) rfl d_R_throwing_22 ?_
    refine lv_if_le (tgt := 32) hx hb d_R_throwing_25 rfl (fun h3 => ?_) (fun h3 => ?_)
    · refine lv_iconst (v := 0) hx hb d_R_throwing_32 (by decide) ?_
      have hP9 := hP.sub (ws' := [(A 20, xc20 Z A (ap_R_throwing M j1))]) [0] rfl
      have hD9 := hD.sub (ws' := [(A 20, xc20 Z A (ap_R_throwing M j1))]) [0] (by decide) rfl
      exact W.zret (ty := .boolean) hx hb hr rfl (fun t ht hW => ⟨⟨0, j1, rfl, (by rw [F_R_throwing, ← hj1, F_R_throwing_k2, if_pos h3]), xE_at hP9 hK hD9 ht hW⟩, hS.F ht⟩) hS.2.2 d_R_throwing_33
    · refine lv_iconst (v := 1) hx hb d_R_throwing_28 (by decide) ?_
      refine lv_goto (tgt := 33) hx hb d_R_throwing_29 rfl ?_
      have hP9 := hP.sub (ws' := [(A 20, xc20 Z A (ap_R_throwing M j1))]) [0] rfl
      have hD9 := hD.sub (ws' := [(A 20, xc20 Z A (ap_R_throwing M j1))]) [0] (by decide) rfl
      exact W.zret (ty := .boolean) hx hb hr rfl (fun t ht hW => ⟨⟨1, j1, rfl, (by rw [F_R_throwing, ← hj1, F_R_throwing_k2, if_neg h3]), xE_at hP9 hK hD9 ht hW⟩, hS.F ht⟩) hS.2.2 d_R_throwing_33
abbrev bc_R_in : ByteArray := prog_12_method_4_code
def y_R_in : MethodName := ⟨"CentrifugeUnitModel", "in", "(JJJ)Z"⟩
theorem d_R_in_0 : decode bc_R_in 0 = .ok (.lload_n 0, 1) := by decide +kernel
theorem d_R_in_1 : decode bc_R_in 1 = .ok (.lload_n 2, 1) := by decide +kernel
theorem d_R_in_2 : decode bc_R_in 2 = .ok (.lcmp, 1) := by decide +kernel
theorem d_R_in_3 : decode bc_R_in 3 = .ok (.ifCond .lt 14, 3) := by decide +kernel
theorem d_R_in_6 : decode bc_R_in 6 = .ok (.lload_n 0, 1) := by decide +kernel
theorem d_R_in_7 : decode bc_R_in 7 = .ok (.lload 4, 2) := by decide +kernel
theorem d_R_in_9 : decode bc_R_in 9 = .ok (.lcmp, 1) := by decide +kernel
theorem d_R_in_10 : decode bc_R_in 10 = .ok (.ifCond .gt 7, 3) := by decide +kernel
theorem d_R_in_13 : decode bc_R_in 13 = .ok (.iconst 1, 1) := by decide +kernel
theorem d_R_in_14 : decode bc_R_in 14 = .ok (.goto 4, 3) := by decide +kernel
theorem d_R_in_17 : decode bc_R_in 17 = .ok (.iconst 0, 1) := by decide +kernel
theorem d_R_in_18 : decode bc_R_in 18 = .ok (.ireturn, 1) := by decide +kernel
def F_R_in (M : XM) (a1 : Int64) (a2 : Int64) (a3 : Int64) : Int32 := (if (lg_cmp a1 a2) < 0 then 0 else (if 0 < (lg_cmp a1 a3) then 0 else 1))
theorem f01_R_in (M : XM) (a1 : Int64) (a2 : Int64) (a3 : Int64) : F_R_in M a1 a2 a3 = 0 ∨ F_R_in M a1 a2 a3 = 1 := by
  simp only [F_R_in]; repeat' split
  all_goals first | exact Or.inl rfl | exact Or.inr rfl | simp
set_option maxHeartbeats 4000000 in
set_option maxRecDepth 100000 in
theorem c_R_in (l : Launch) (dC : Nat → ClassId) (dI : Nat → Nat → Nat) (Z : Nat → ClassId) (A : Nat → Nat) (sz : Nat) (M : XM) (a1 : Int64) (a2 : Int64) (a3 : Int64) : Met l y_R_in (.code y_R_in bc_R_in 6 (some .boolean) :: xw) ({ frames := 0, cells := 0, slots := 0, locals := 0 }) (va_Pc [.long a1, .long a2, .long a3] (xB (dC, dI) xcl (xty Z) sz [])) (k2_QcV (.int (F_R_in M a1 a2 a3))) 0 0 (fun _ => False) := by
  refine Met.ofW (cc := bc_R_in) (maxL := 6) (ret := (some .boolean)) (by decide) rfl ?_
  intro p e s m args below meth c s₁ B hml hv
  obtain ⟨rfl, hsz, hP, hK, hD0, hq⟩ := hv
  have hx := B.exec
  have hb := B.bytes
  have hr := B.returns
  have hts := atoms_spec (ws := (.code y_R_in bc_R_in 6 (some .boolean) :: xw)) B.pre
  have htt : ∀ w ∈ xw, w.before _ s = true := fun w h => hts w (List.mem_cons_of_mem _ h)
  have hown : s.vm.findClass "CentrifugeUnitModel" = some m.cls := findClass_of_methodNamed B.named
  have hlocks := B.notSynchronized
  subst hsz
  have hD : va_D (fun _ => True) [] := hD0
  have hP : va_P (dC, dI) xcl [] s.heap := hP
  have hl := lv_entry ([.long a1, .long a2, .long a3]) (n := 6) (Nat.le_of_ble_eq_true rfl)
  rw [lg_entry_eq]
  generalize (lg_sl ([.long a1, .long a2, .long a3]) ++ List.replicate (6 - (lg_sl ([.long a1, .long a2, .long a3])).length) Slot.unset).toArray = ls at hl ⊢
  have hl : lv_has ls 6 [(0, .long a1), (2, .long a2), (4, .long a3)] := hl
  refine lv_lload_n hx hb d_R_in_0 rfl (lv_at hl 0 rfl) ?_
  refine lv_lload_n hx hb d_R_in_1 rfl (lv_at hl 1 rfl) ?_
  refine W.lcmp hx hb d_R_in_2 ?_
  refine lv_if_lt (tgt := 17) hx hb d_R_in_3 rfl (fun h1 => ?_) (fun h1 => ?_)
  · refine lv_iconst (v := 0) hx hb d_R_in_17 (by decide) ?_
    exact W.zret (ty := .boolean) hx hb hr rfl (fun t ht hW => ⟨(by rw [F_R_in, if_pos h1]), ht⟩) (fun _ h => absurd h List.not_mem_nil) d_R_in_18
  · refine lv_lload_n hx hb d_R_in_6 rfl (lv_at hl 0 rfl) ?_
    refine lv_lload hx hb d_R_in_7 (lv_at hl 2 rfl) ?_
    refine W.lcmp hx hb d_R_in_9 ?_
    refine lv_if_gt (tgt := 17) hx hb d_R_in_10 rfl (fun h2 => ?_) (fun h2 => ?_)
    · refine lv_iconst (v := 0) hx hb d_R_in_17 (by decide) ?_
      exact W.zret (ty := .boolean) hx hb hr rfl (fun t ht hW => ⟨(by rw [F_R_in, if_neg h1, if_pos h2]), ht⟩) (fun _ h => absurd h List.not_mem_nil) d_R_in_18
    · refine lv_iconst (v := 1) hx hb d_R_in_13 (by decide) ?_
      refine lv_goto (tgt := 18) hx hb d_R_in_14 rfl ?_
      exact W.zret (ty := .boolean) hx hb hr rfl (fun t ht hW => ⟨(by rw [F_R_in, if_neg h1, if_neg h2]), ht⟩) (fun _ h => absurd h List.not_mem_nil) d_R_in_18
abbrev bc_R_isLocked : ByteArray := prog_12_method_5_code
def y_R_isLocked : MethodName := ⟨"CentrifugeUnitModel", "isLocked", "()Z"⟩
theorem d_R_isLocked_0 : decode bc_R_isLocked 0 = .ok (.aload_n 0, 1) := by decide +kernel
theorem d_R_isLocked_1 : decode bc_R_isLocked 1 = .ok (.getfield 52, 3) := by decide +kernel
theorem d_R_isLocked_4 : decode bc_R_isLocked 4 = .ok (.ifCond .eq 14, 3) := by decide +kernel
theorem d_R_isLocked_7 : decode bc_R_isLocked 7 = .ok (.aload_n 0, 1) := by decide +kernel
theorem d_R_isLocked_8 : decode bc_R_isLocked 8 = .ok (.getfield 71, 3) := by decide +kernel
theorem d_R_isLocked_11 : decode bc_R_isLocked 11 = .ok (.ifCond .ne 7, 3) := by decide +kernel
theorem d_R_isLocked_14 : decode bc_R_isLocked 14 = .ok (.iconst 1, 1) := by decide +kernel
theorem d_R_isLocked_15 : decode bc_R_isLocked 15 = .ok (.goto 4, 3) := by decide +kernel
theorem d_R_isLocked_18 : decode bc_R_isLocked 18 = .ok (.iconst 0, 1) := by decide +kernel
theorem d_R_isLocked_19 : decode bc_R_isLocked 19 = .ok (.ireturn, 1) := by decide +kernel
def F_R_isLocked (M : XM) : Int32 := (if (M.1 121) = 0 then 0 else (if (M.1 122) = 0 then 1 else 0))
theorem f01_R_isLocked (M : XM) : F_R_isLocked M = 0 ∨ F_R_isLocked M = 1 := by
  simp only [F_R_isLocked]; repeat' split
  all_goals first | exact Or.inl rfl | exact Or.inr rfl | simp
set_option maxHeartbeats 4000000 in
set_option maxRecDepth 100000 in
theorem c_R_isLocked (l : Launch) (dC : Nat → ClassId) (dI : Nat → Nat → Nat) (Z : Nat → ClassId) (A : Nat → Nat) (sz : Nat) (M : XM) : Met l y_R_isLocked (.code y_R_isLocked bc_R_isLocked 1 (some .boolean) :: xw) ({ frames := 0, cells := 0, slots := 0, locals := 0 }) (va_Pc [.ref (A 20)] (xB (dC, dI) xcl (xty Z) sz [(A 20, xc20 Z A M)])) (k2_QcV (.int (F_R_isLocked M))) 0 0 (fun _ => False) := by
  refine Met.ofW (cc := bc_R_isLocked) (maxL := 1) (ret := (some .boolean)) (by decide) rfl ?_
  intro p e s m args below meth c s₁ B hml hv
  obtain ⟨rfl, hsz, hP, hK, hD0, hq⟩ := hv
  have hx := B.exec
  have hb := B.bytes
  have hr := B.returns
  have hts := atoms_spec (ws := (.code y_R_isLocked bc_R_isLocked 1 (some .boolean) :: xw)) B.pre
  have htt : ∀ w ∈ xw, w.before _ s = true := fun w h => hts w (List.mem_cons_of_mem _ h)
  have hown : s.vm.findClass "CentrifugeUnitModel" = some m.cls := findClass_of_methodNamed B.named
  have hlocks := B.notSynchronized
  subst hsz
  have hD : va_D (fun _ => True) [(A 20, .inr (10, [.int (M.1 100), .ref (A 21), .ref (A 22), .ref (A 23), .ref (A 24), .ref (A 25), .int (M.1 101), .ref (A 26), .ref (A 27), .ref (A 28), .int (M.1 102), .long (M.2.1 100), .int (M.1 103), .int (M.1 104), .int (M.1 105), .int (M.1 106), .int (M.1 107), .int (M.1 108), .long (M.2.1 101), .long (M.2.1 102), .long (M.2.1 103), .int (M.1 109), .int (M.1 110), .int (M.1 111), .int (M.1 112), .int (M.1 113), .long (M.2.1 104), .long (M.2.1 105), .long (M.2.1 106), .int (M.1 114), .int (M.1 115), .int (M.1 116), .int (M.1 117), .int (M.1 118), .int (M.1 119), .int (M.1 120), .int (M.1 121), .int (M.1 122), .int (M.1 123), .int (M.1 124), .long (M.2.1 107), .int (M.1 125), .ref (A 29), .ref (A 30), .ref (A 31)]))] := hD0
  have hP : va_P (dC, dI) xcl [(A 20, .inr (10, [.int (M.1 100), .ref (A 21), .ref (A 22), .ref (A 23), .ref (A 24), .ref (A 25), .int (M.1 101), .ref (A 26), .ref (A 27), .ref (A 28), .int (M.1 102), .long (M.2.1 100), .int (M.1 103), .int (M.1 104), .int (M.1 105), .int (M.1 106), .int (M.1 107), .int (M.1 108), .long (M.2.1 101), .long (M.2.1 102), .long (M.2.1 103), .int (M.1 109), .int (M.1 110), .int (M.1 111), .int (M.1 112), .int (M.1 113), .long (M.2.1 104), .long (M.2.1 105), .long (M.2.1 106), .int (M.1 114), .int (M.1 115), .int (M.1 116), .int (M.1 117), .int (M.1 118), .int (M.1 119), .int (M.1 120), .int (M.1 121), .int (M.1 122), .int (M.1 123), .int (M.1 124), .long (M.2.1 107), .int (M.1 125), .ref (A 29), .ref (A 30), .ref (A 31)]))] s.heap := hP
  have hl := lv_entry ([.ref (A 20)]) (n := 1) (Nat.le_of_ble_eq_true rfl)
  rw [lg_entry_eq]
  generalize (lg_sl ([.ref (A 20)]) ++ List.replicate (1 - (lg_sl ([.ref (A 20)])).length) Slot.unset).toArray = ls at hl ⊢
  have hl : lv_has ls 1 [(0, .ref (A 20))] := hl
  refine lv_aload_n hx hb d_R_isLocked_0 rfl (lv_at hl 0 rfl) ?_
  refine va_get (D := (dC, dI)) (ci := 10) (v := .int (M.1 121)) (C := "CentrifugeUnitModel") (T := xF10) (N := 45) hx hb htt xin10 hown hK hP 0 rfl rfl 36 (by decide) (htt _ tw_815) (fun _ h9 => h9) rfl d_R_isLocked_1 ?_
  refine lv_if_eq (tgt := 18) hx hb d_R_isLocked_4 rfl (fun h1 => ?_) (fun h1 => ?_)
  · refine lv_iconst (v := 0) hx hb d_R_isLocked_18 (by decide) ?_
    exact W.zret (ty := .boolean) hx hb hr rfl (fun t ht hW => ⟨(by rw [F_R_isLocked, if_pos h1]), ht⟩) (fun _ h => absurd h List.not_mem_nil) d_R_isLocked_19
  · refine lv_aload_n hx hb d_R_isLocked_7 rfl (lv_at hl 0 rfl) ?_
    refine va_get (D := (dC, dI)) (ci := 10) (v := .int (M.1 122)) (C := "CentrifugeUnitModel") (T := xF10) (N := 45) hx hb htt xin10 hown hK hP 0 rfl rfl 37 (by decide) (htt _ tw_816) (fun _ h9 => h9) rfl d_R_isLocked_8 ?_
    refine lv_if_ne (tgt := 18) hx hb d_R_isLocked_11 rfl (fun h2 => ?_) (fun h2 => ?_)
    · refine lv_iconst (v := 0) hx hb d_R_isLocked_18 (by decide) ?_
      exact W.zret (ty := .boolean) hx hb hr rfl (fun t ht hW => ⟨(by rw [F_R_isLocked, if_neg h1, if_neg h2]), ht⟩) (fun _ h => absurd h List.not_mem_nil) d_R_isLocked_19
    · refine lv_iconst (v := 1) hx hb d_R_isLocked_14 (by decide) ?_
      refine lv_goto (tgt := 19) hx hb d_R_isLocked_15 rfl ?_
      exact W.zret (ty := .boolean) hx hb hr rfl (fun t ht hW => ⟨(by rw [F_R_isLocked, if_neg h1, if_pos h2]), ht⟩) (fun _ h => absurd h List.not_mem_nil) d_R_isLocked_19
abbrev bc_R_atRest : ByteArray := prog_12_method_6_code
def y_R_atRest : MethodName := ⟨"CentrifugeUnitModel", "atRest", "()Z"⟩
theorem d_R_atRest_0 : decode bc_R_atRest 0 = .ok (.aload_n 0, 1) := by decide +kernel
theorem d_R_atRest_1 : decode bc_R_atRest 1 = .ok (.getfield 45, 3) := by decide +kernel
theorem d_R_atRest_4 : decode bc_R_atRest 4 = .ok (.ifCond .eq 16, 3) := by decide +kernel
theorem d_R_atRest_7 : decode bc_R_atRest 7 = .ok (.aload_n 0, 1) := by decide +kernel
theorem d_R_atRest_8 : decode bc_R_atRest 8 = .ok (.getfield 74, 3) := by decide +kernel
theorem d_R_atRest_11 : decode bc_R_atRest 11 = .ok (.bipush 25, 2) := by decide +kernel
theorem d_R_atRest_13 : decode bc_R_atRest 13 = .ok (.if_icmp .lt 7, 3) := by decide +kernel
theorem d_R_atRest_16 : decode bc_R_atRest 16 = .ok (.iconst 1, 1) := by decide +kernel
theorem d_R_atRest_17 : decode bc_R_atRest 17 = .ok (.goto 4, 3) := by decide +kernel
theorem d_R_atRest_20 : decode bc_R_atRest 20 = .ok (.iconst 0, 1) := by decide +kernel
theorem d_R_atRest_21 : decode bc_R_atRest 21 = .ok (.ireturn, 1) := by decide +kernel
def F_R_atRest (M : XM) : Int32 := (if (M.1 109) = 0 then 0 else (if (M.1 118) < 25 then 0 else 1))
theorem f01_R_atRest (M : XM) : F_R_atRest M = 0 ∨ F_R_atRest M = 1 := by
  simp only [F_R_atRest]; repeat' split
  all_goals first | exact Or.inl rfl | exact Or.inr rfl | simp
set_option maxHeartbeats 4000000 in
set_option maxRecDepth 100000 in
theorem c_R_atRest (l : Launch) (dC : Nat → ClassId) (dI : Nat → Nat → Nat) (Z : Nat → ClassId) (A : Nat → Nat) (sz : Nat) (M : XM) : Met l y_R_atRest (.code y_R_atRest bc_R_atRest 1 (some .boolean) :: xw) ({ frames := 0, cells := 0, slots := 0, locals := 0 }) (va_Pc [.ref (A 20)] (xB (dC, dI) xcl (xty Z) sz [(A 20, xc20 Z A M)])) (k2_QcV (.int (F_R_atRest M))) 0 0 (fun _ => False) := by
  refine Met.ofW (cc := bc_R_atRest) (maxL := 1) (ret := (some .boolean)) (by decide) rfl ?_
  intro p e s m args below meth c s₁ B hml hv
  obtain ⟨rfl, hsz, hP, hK, hD0, hq⟩ := hv
  have hx := B.exec
  have hb := B.bytes
  have hr := B.returns
  have hts := atoms_spec (ws := (.code y_R_atRest bc_R_atRest 1 (some .boolean) :: xw)) B.pre
  have htt : ∀ w ∈ xw, w.before _ s = true := fun w h => hts w (List.mem_cons_of_mem _ h)
  have hown : s.vm.findClass "CentrifugeUnitModel" = some m.cls := findClass_of_methodNamed B.named
  have hlocks := B.notSynchronized
  subst hsz
  have hD : va_D (fun _ => True) [(A 20, .inr (10, [.int (M.1 100), .ref (A 21), .ref (A 22), .ref (A 23), .ref (A 24), .ref (A 25), .int (M.1 101), .ref (A 26), .ref (A 27), .ref (A 28), .int (M.1 102), .long (M.2.1 100), .int (M.1 103), .int (M.1 104), .int (M.1 105), .int (M.1 106), .int (M.1 107), .int (M.1 108), .long (M.2.1 101), .long (M.2.1 102), .long (M.2.1 103), .int (M.1 109), .int (M.1 110), .int (M.1 111), .int (M.1 112), .int (M.1 113), .long (M.2.1 104), .long (M.2.1 105), .long (M.2.1 106), .int (M.1 114), .int (M.1 115), .int (M.1 116), .int (M.1 117), .int (M.1 118), .int (M.1 119), .int (M.1 120), .int (M.1 121), .int (M.1 122), .int (M.1 123), .int (M.1 124), .long (M.2.1 107), .int (M.1 125), .ref (A 29), .ref (A 30), .ref (A 31)]))] := hD0
  have hP : va_P (dC, dI) xcl [(A 20, .inr (10, [.int (M.1 100), .ref (A 21), .ref (A 22), .ref (A 23), .ref (A 24), .ref (A 25), .int (M.1 101), .ref (A 26), .ref (A 27), .ref (A 28), .int (M.1 102), .long (M.2.1 100), .int (M.1 103), .int (M.1 104), .int (M.1 105), .int (M.1 106), .int (M.1 107), .int (M.1 108), .long (M.2.1 101), .long (M.2.1 102), .long (M.2.1 103), .int (M.1 109), .int (M.1 110), .int (M.1 111), .int (M.1 112), .int (M.1 113), .long (M.2.1 104), .long (M.2.1 105), .long (M.2.1 106), .int (M.1 114), .int (M.1 115), .int (M.1 116), .int (M.1 117), .int (M.1 118), .int (M.1 119), .int (M.1 120), .int (M.1 121), .int (M.1 122), .int (M.1 123), .int (M.1 124), .long (M.2.1 107), .int (M.1 125), .ref (A 29), .ref (A 30), .ref (A 31)]))] s.heap := hP
  have hl := lv_entry ([.ref (A 20)]) (n := 1) (Nat.le_of_ble_eq_true rfl)
  rw [lg_entry_eq]
  generalize (lg_sl ([.ref (A 20)]) ++ List.replicate (1 - (lg_sl ([.ref (A 20)])).length) Slot.unset).toArray = ls at hl ⊢
  have hl : lv_has ls 1 [(0, .ref (A 20))] := hl
  refine lv_aload_n hx hb d_R_atRest_0 rfl (lv_at hl 0 rfl) ?_
  refine va_get (D := (dC, dI)) (ci := 10) (v := .int (M.1 109)) (C := "CentrifugeUnitModel") (T := xF10) (N := 45) hx hb htt xin10 hown hK hP 0 rfl rfl 21 (by decide) (htt _ tw_800) (fun _ h9 => h9) rfl d_R_atRest_1 ?_
  refine lv_if_eq (tgt := 20) hx hb d_R_atRest_4 rfl (fun h1 => ?_) (fun h1 => ?_)
  · refine lv_iconst (v := 0) hx hb d_R_atRest_20 (by decide) ?_
    exact W.zret (ty := .boolean) hx hb hr rfl (fun t ht hW => ⟨(by rw [F_R_atRest, if_pos h1]), ht⟩) (fun _ h => absurd h List.not_mem_nil) d_R_atRest_21
  · refine lv_aload_n hx hb d_R_atRest_7 rfl (lv_at hl 0 rfl) ?_
    refine va_get (D := (dC, dI)) (ci := 10) (v := .int (M.1 118)) (C := "CentrifugeUnitModel") (T := xF10) (N := 45) hx hb htt xin10 hown hK hP 0 rfl rfl 33 (by decide) (htt _ tw_812) (fun _ h9 => h9) rfl d_R_atRest_8 ?_
    refine lv_bipush (v := 25) hx hb d_R_atRest_11 (by decide) ?_
    refine lv_icmp_lt (tgt := 20) hx hb d_R_atRest_13 rfl (fun h2 => ?_) (fun h2 => ?_)
    · refine lv_iconst (v := 0) hx hb d_R_atRest_20 (by decide) ?_
      exact W.zret (ty := .boolean) hx hb hr rfl (fun t ht hW => ⟨(by rw [F_R_atRest, if_neg h1, if_pos h2]), ht⟩) (fun _ h => absurd h List.not_mem_nil) d_R_atRest_21
    · refine lv_iconst (v := 1) hx hb d_R_atRest_16 (by decide) ?_
      refine lv_goto (tgt := 21) hx hb d_R_atRest_17 rfl ?_
      exact W.zret (ty := .boolean) hx hb hr rfl (fun t ht hW => ⟨(by rw [F_R_atRest, if_neg h1, if_neg h2]), ht⟩) (fun _ h => absurd h List.not_mem_nil) d_R_atRest_21
abbrev bc_R_put : ByteArray := prog_12_method_8_code
def y_R_put : MethodName := ⟨"CentrifugeUnitModel", "put", "(I)V"⟩
theorem d_R_put_0 : decode bc_R_put 0 = .ok (.aload_n 0, 1) := by decide +kernel
theorem d_R_put_1 : decode bc_R_put 1 = .ok (.iload_n 1, 1) := by decide +kernel
theorem d_R_put_2 : decode bc_R_put 2 = .ok (.i2l, 1) := by decide +kernel
theorem d_R_put_3 : decode bc_R_put 3 = .ok (.ldc2_w 102, 3) := by decide +kernel
theorem d_R_put_6 : decode bc_R_put 6 = .ok (.ldc2_w 77, 3) := by decide +kernel
theorem d_R_put_9 : decode bc_R_put 9 = .ok (.invokestatic 79, 3) := by decide +kernel
theorem d_R_put_12 : decode bc_R_put 12 = .ok (.ifCond .ne 7, 3) := by decide +kernel
theorem d_R_put_15 : decode bc_R_put 15 = .ok (.iconst 1, 1) := by decide +kernel
theorem d_R_put_16 : decode bc_R_put 16 = .ok (.goto 4, 3) := by decide +kernel
theorem d_R_put_19 : decode bc_R_put 19 = .ok (.iconst 0, 1) := by decide +kernel
theorem d_R_put_20 : decode bc_R_put 20 = .ok (.iconst 0, 1) := by decide +kernel
theorem d_R_put_21 : decode bc_R_put 21 = .ok (.invokevirtual 98, 3) := by decide +kernel
theorem d_R_put_24 : decode bc_R_put 24 = .ok (.ifCond .eq 4, 3) := by decide +kernel
theorem d_R_put_27 : decode bc_R_put 27 = .ok (.return_, 1) := by decide +kernel
theorem d_R_put_28 : decode bc_R_put 28 = .ok (.aload_n 0, 1) := by decide +kernel
theorem d_R_put_29 : decode bc_R_put 29 = .ok (.iload_n 1, 1) := by decide +kernel
theorem d_R_put_30 : decode bc_R_put 30 = .ok (.putfield 26, 3) := by decide +kernel
theorem d_R_put_33 : decode bc_R_put 33 = .ok (.return_, 1) := by decide +kernel
abbrev ap_R_put (M : XM) (u : (Int32 × Int32)) : XM := ((va_up (va_up M.1 100 (u.1)) 101 (u.2)), M.2)
def F_R_put_k4 (M : XM) (a1 : Int32) (z1 : Int32) (j2 : Int32) (p6 : Int32 × Int32) : (Int32 × Int32) := (if p6.1 = 0 then ((p6.2), a1) else ((p6.2), (M.1 101)))
def F_R_put_k3 (M : XM) (a1 : Int32) (z1 : Int32) (j2 : Int32) : (Int32 × Int32) := (F_R_put_k4 M a1 z1 j2 (F_R_throwing M j2 0))
def F_R_put_j2 (M : XM) (a1 : Int32) (z1 : Int32) : Int32 := (if z1 = 0 then 1 else 0)
def F_R_put_k1 (M : XM) (a1 : Int32) (z1 : Int32) : (Int32 × Int32) := (F_R_put_k3 M a1 z1 (F_R_put_j2 M a1 z1))
def F_R_put (M : XM) (a1 : Int32) : (Int32 × Int32) := (F_R_put_k1 M a1 (F_R_in M (a1).toInt64 (-1) 3))
set_option maxHeartbeats 4000000 in
set_option maxRecDepth 100000 in
theorem c_R_put (l : Launch) (dC : Nat → ClassId) (dI : Nat → Nat → Nat) (Z : Nat → ClassId) (A : Nat → Nat) (sz : Nat) (M : XM) (a1 : Int32) : Met l y_R_put (.code y_R_put bc_R_put 2 none :: xw) ({ frames := 1, cells := 0, slots := 0, locals := 25 }) (va_Pc [.ref (A 20), .int a1] (xB (dC, dI) xcl (xty Z) sz [(A 20, xc20 Z A M)])) (va_Qv (fun u : (Int32 × Int32) => u = F_R_put M a1) (fun u => xE (dC, dI) xcl (xty Z) (va_A [(A 20, xc20 Z A M)] sz) [(A 20, xc20 Z A (ap_R_put M u))]) (va_A [(A 20, xc20 Z A M)] sz)) 0 0 (va_A [(A 20, xc20 Z A M)] sz) := by
  refine Met.ofW (cc := bc_R_put) (maxL := 2) (ret := none) (by decide) rfl ?_
  intro p e s m args below meth c s₁ B hml hv
  obtain ⟨rfl, hsz, hP, hK, hD0, hq⟩ := hv
  have hx := B.exec
  have hb := B.bytes
  have hr := B.returns
  have hts := atoms_spec (ws := (.code y_R_put bc_R_put 2 none :: xw)) B.pre
  have htt : ∀ w ∈ xw, w.before _ s = true := fun w h => hts w (List.mem_cons_of_mem _ h)
  have hown : s.vm.findClass "CentrifugeUnitModel" = some m.cls := findClass_of_methodNamed B.named
  have hlocks := B.notSynchronized
  subst hsz
  have hD := hD0.self (sz := s.heap.size)
  generalize hAe : va_A [(A 20, xc20 Z A M)] s.heap.size = AA at hD ⊢
  have hA : ∀ q : Nat, s.heap.size ≤ q → AA q := fun q h => by rw [← hAe]; exact Or.inr h
  have hS : va_S AA s.heap s.heap [] := va_S.rf
  have hP : va_P (dC, dI) xcl [(A 20, .inr (10, [.int (M.1 100), .ref (A 21), .ref (A 22), .ref (A 23), .ref (A 24), .ref (A 25), .int (M.1 101), .ref (A 26), .ref (A 27), .ref (A 28), .int (M.1 102), .long (M.2.1 100), .int (M.1 103), .int (M.1 104), .int (M.1 105), .int (M.1 106), .int (M.1 107), .int (M.1 108), .long (M.2.1 101), .long (M.2.1 102), .long (M.2.1 103), .int (M.1 109), .int (M.1 110), .int (M.1 111), .int (M.1 112), .int (M.1 113), .long (M.2.1 104), .long (M.2.1 105), .long (M.2.1 106), .int (M.1 114), .int (M.1 115), .int (M.1 116), .int (M.1 117), .int (M.1 118), .int (M.1 119), .int (M.1 120), .int (M.1 121), .int (M.1 122), .int (M.1 123), .int (M.1 124), .long (M.2.1 107), .int (M.1 125), .ref (A 29), .ref (A 30), .ref (A 31)]))] s.heap := hP
  have hD : va_D AA [(A 20, .inr (10, [.int (M.1 100), .ref (A 21), .ref (A 22), .ref (A 23), .ref (A 24), .ref (A 25), .int (M.1 101), .ref (A 26), .ref (A 27), .ref (A 28), .int (M.1 102), .long (M.2.1 100), .int (M.1 103), .int (M.1 104), .int (M.1 105), .int (M.1 106), .int (M.1 107), .int (M.1 108), .long (M.2.1 101), .long (M.2.1 102), .long (M.2.1 103), .int (M.1 109), .int (M.1 110), .int (M.1 111), .int (M.1 112), .int (M.1 113), .long (M.2.1 104), .long (M.2.1 105), .long (M.2.1 106), .int (M.1 114), .int (M.1 115), .int (M.1 116), .int (M.1 117), .int (M.1 118), .int (M.1 119), .int (M.1 120), .int (M.1 121), .int (M.1 122), .int (M.1 123), .int (M.1 124), .long (M.2.1 107), .int (M.1 125), .ref (A 29), .ref (A 30), .ref (A 31)]))] := hD
  have hl := lv_entry ([.ref (A 20), .int a1]) (n := 2) (Nat.le_of_ble_eq_true rfl)
  rw [lg_entry_eq]
  generalize (lg_sl ([.ref (A 20), .int a1]) ++ List.replicate (2 - (lg_sl ([.ref (A 20), .int a1])).length) Slot.unset).toArray = ls at hl ⊢
  have hl : lv_has ls 2 [(0, .ref (A 20)), (1, .int a1)] := hl
  refine lv_aload_n hx hb d_R_put_0 rfl (lv_at hl 0 rfl) ?_
  refine lv_iload_n hx hb d_R_put_1 rfl (lv_at hl 1 rfl) ?_
  refine lv_i2l (v := (a1).toInt64) hx hb d_R_put_2 rfl ?_
  refine lv_ldc2 (v := (-1)) hx hb hown (htt _ tw_942) d_R_put_3 ?_
  refine lv_ldc2 (v := 3) hx hb hown (htt _ tw_924) d_R_put_6 ?_
  have hPc := hP.sub (ws' := []) [] rfl
  have hDc := hD.sub (ws' := []) [] (by decide) rfl
  refine xk_p (va_runS (As := [.long (a1).toInt64, .long (-1), .long 3]) (rest := [.ref (A 20)]) ⟨hx, hb, hml, hown, hts⟩ (c_R_in l dC dI Z A _ M (a1).toInt64 (-1) 3) (va_cwS 3 hts (xw_S _ tw_925 tw_926 tw_12 tw_927) rfl rfl rfl (by decide +kernel) ⟨Nat.le_of_ble_eq_true rfl, Nat.le_of_ble_eq_true rfl⟩) ⟨xB_blind, fun U hU hW => ⟨rfl, xB_at hPc hK hDc hq U hU hW⟩⟩ rfl rfl hl.1 rfl (lv_room (Nat.le_of_ble_eq_true rfl)) d_R_put_9 ⟨Nat.le_of_ble_eq_true rfl, Nat.le_of_ble_eq_true rfl⟩) ?_
  refine lv_topi (fun z1 hz1 => ?_)
  refine xj_p 2 20 (fun q9 : Int32 => [(0, .ref (A 20)), (1, .int a1)]) (fun q9 : Int32 => [.int q9, .ref (A 20)]) (fun q9 : Int32 => q9 = F_R_put_j2 M a1 z1) (fun hJ3 => ?_) (fun ls j2 hl hj2 => ?_)
  · refine lv_if_ne (tgt := 19) hx hb d_R_put_12 rfl (fun h8 => ?_) (fun h8 => ?_)
    · refine lv_iconst (v := 0) hx hb d_R_put_19 (by decide) ?_
      exact hJ3 _ 0 (lv_sub hl [0, 1] rfl) (by rw [F_R_put_j2, if_neg h8])
    · refine lv_iconst (v := 1) hx hb d_R_put_15 (by decide) ?_
      refine lv_goto (tgt := 20) hx hb d_R_put_16 rfl ?_
      exact hJ3 _ 1 (lv_sub hl [0, 1] rfl) (by rw [F_R_put_j2, if_pos h8])
  · refine lv_iconst (v := 0) hx hb d_R_put_20 (by decide) ?_
    have hPc := hP.sub (ws' := [(A 20, xc20 Z A M)]) [0] rfl
    have hDc := hD.sub (ws' := [(A 20, xc20 Z A M)]) [0] (by decide) rfl
    refine xk_i (wc := [(A 20, xc20 Z A M)]) (wr := []) (va_runV (As := [.int j2, .int 0]) (rest := []) ⟨hx, hb, hml, hown, hts⟩ (c_R_throwing l dC dI Z A _ M j2 0) (cwV 2 hts (xw_V _ tw_934 tw_936 tp_12 tw_12 tw_937) rfl rfl rfl (by decide +kernel) ⟨Nat.le_of_ble_eq_true rfl, Nat.le_of_ble_eq_true rfl⟩) ⟨xB_blind, va_recv (q0 := 0) (ci := 10) hK hP rfl rfl, fun U hU hW => ⟨rfl, xB_at hPc hK hDc hq U hU hW⟩⟩ rfl rfl hl.1 rfl (lv_room (Nat.le_of_ble_eq_true rfl)) d_R_put_21 ⟨Nat.le_of_ble_eq_true rfl, Nat.le_of_ble_eq_true rfl⟩) hP hD hS hA [0] [] rfl rfl (by decide) (by decide) (fun r5 u4 H locs hu4 hP hD hS => ?_)
    obtain ⟨p6, rfl, rfl⟩ : ∃ z : Int32 × Int32, r5 = z.1 ∧ u4 = z.2 := ⟨(r5, u4), rfl, rfl⟩
    replace hu4 : p6 = (F_R_throwing M j2 0) := hu4
    have hP : va_P (dC, dI) xcl [(A 20, .inr (10, [.int (p6.2), .ref (A 21), .ref (A 22), .ref (A 23), .ref (A 24), .ref (A 25), .int (M.1 101), .ref (A 26), .ref (A 27), .ref (A 28), .int (M.1 102), .long (M.2.1 100), .int (M.1 103), .int (M.1 104), .int (M.1 105), .int (M.1 106), .int (M.1 107), .int (M.1 108), .long (M.2.1 101), .long (M.2.1 102), .long (M.2.1 103), .int (M.1 109), .int (M.1 110), .int (M.1 111), .int (M.1 112), .int (M.1 113), .long (M.2.1 104), .long (M.2.1 105), .long (M.2.1 106), .int (M.1 114), .int (M.1 115), .int (M.1 116), .int (M.1 117), .int (M.1 118), .int (M.1 119), .int (M.1 120), .int (M.1 121), .int (M.1 122), .int (M.1 123), .int (M.1 124), .long (M.2.1 107), .int (M.1 125), .ref (A 29), .ref (A 30), .ref (A 31)]))] H := hP
    have hD : va_D AA [(A 20, .inr (10, [.int (p6.2), .ref (A 21), .ref (A 22), .ref (A 23), .ref (A 24), .ref (A 25), .int (M.1 101), .ref (A 26), .ref (A 27), .ref (A 28), .int (M.1 102), .long (M.2.1 100), .int (M.1 103), .int (M.1 104), .int (M.1 105), .int (M.1 106), .int (M.1 107), .int (M.1 108), .long (M.2.1 101), .long (M.2.1 102), .long (M.2.1 103), .int (M.1 109), .int (M.1 110), .int (M.1 111), .int (M.1 112), .int (M.1 113), .long (M.2.1 104), .long (M.2.1 105), .long (M.2.1 106), .int (M.1 114), .int (M.1 115), .int (M.1 116), .int (M.1 117), .int (M.1 118), .int (M.1 119), .int (M.1 120), .int (M.1 121), .int (M.1 122), .int (M.1 123), .int (M.1 124), .long (M.2.1 107), .int (M.1 125), .ref (A 29), .ref (A 30), .ref (A 31)]))] := hD
    refine lv_if_eq (tgt := 28) hx hb d_R_put_24 rfl (fun h7 => ?_) (fun h7 => ?_)
    · refine lv_aload_n hx hb d_R_put_28 rfl (lv_at hl 0 rfl) ?_
      refine lv_iload_n hx hb d_R_put_29 rfl (lv_at hl 1 rfl) ?_
      refine va_put (D := (dC, dI)) (ci := 10) (v := .int a1) (ty := .int) (C := "CentrifugeUnitModel") (T := xF10) (N := 45) hx hb htt xin10 xT10 xTo10 xNm10 hown hK hP hD hS 0 rfl rfl 6 (by decide) (htt _ tw_785) (fun _ h9 => h9) rfl (by decide +kernel) rfl rfl (Nat.le_of_ble_eq_true rfl) d_R_put_30 (fun H locs hP hD hS => ?_)
      have hP : va_P (dC, dI) xcl [(A 20, .inr (10, [.int (p6.2), .ref (A 21), .ref (A 22), .ref (A 23), .ref (A 24), .ref (A 25), .int a1, .ref (A 26), .ref (A 27), .ref (A 28), .int (M.1 102), .long (M.2.1 100), .int (M.1 103), .int (M.1 104), .int (M.1 105), .int (M.1 106), .int (M.1 107), .int (M.1 108), .long (M.2.1 101), .long (M.2.1 102), .long (M.2.1 103), .int (M.1 109), .int (M.1 110), .int (M.1 111), .int (M.1 112), .int (M.1 113), .long (M.2.1 104), .long (M.2.1 105), .long (M.2.1 106), .int (M.1 114), .int (M.1 115), .int (M.1 116), .int (M.1 117), .int (M.1 118), .int (M.1 119), .int (M.1 120), .int (M.1 121), .int (M.1 122), .int (M.1 123), .int (M.1 124), .long (M.2.1 107), .int (M.1 125), .ref (A 29), .ref (A 30), .ref (A 31)]))] H := hP
      have hD : va_D AA [(A 20, .inr (10, [.int (p6.2), .ref (A 21), .ref (A 22), .ref (A 23), .ref (A 24), .ref (A 25), .int a1, .ref (A 26), .ref (A 27), .ref (A 28), .int (M.1 102), .long (M.2.1 100), .int (M.1 103), .int (M.1 104), .int (M.1 105), .int (M.1 106), .int (M.1 107), .int (M.1 108), .long (M.2.1 101), .long (M.2.1 102), .long (M.2.1 103), .int (M.1 109), .int (M.1 110), .int (M.1 111), .int (M.1 112), .int (M.1 113), .long (M.2.1 104), .long (M.2.1 105), .long (M.2.1 106), .int (M.1 114), .int (M.1 115), .int (M.1 116), .int (M.1 117), .int (M.1 118), .int (M.1 119), .int (M.1 120), .int (M.1 121), .int (M.1 122), .int (M.1 123), .int (M.1 124), .long (M.2.1 107), .int (M.1 125), .ref (A 29), .ref (A 30), .ref (A 31)]))] := hD
      have hP9 := hP.sub (ws' := [(A 20, xc20 Z A (ap_R_put M ((p6.2), a1)))]) [0] rfl
      have hD9 := hD.sub (ws' := [(A 20, xc20 Z A (ap_R_put M ((p6.2), a1)))]) [0] (by decide) rfl
      exact W.vret hx hb hr (fun t ht hW => ⟨⟨((p6.2), a1), rfl, (by rw [F_R_put, ← hz1, F_R_put_k1, ← hj2, F_R_put_k3, ← hu4, F_R_put_k4, if_pos h7]), xE_at hP9 hK hD9 ht hW⟩, hS.F ht⟩) hS.2.2 d_R_put_33
    · have hP9 := hP.sub (ws' := [(A 20, xc20 Z A (ap_R_put M ((p6.2), (M.1 101))))]) [0] rfl
      have hD9 := hD.sub (ws' := [(A 20, xc20 Z A (ap_R_put M ((p6.2), (M.1 101))))]) [0] (by decide) rfl
      exact W.vret hx hb hr (fun t ht hW => ⟨⟨((p6.2), (M.1 101)), rfl, (by rw [F_R_put, ← hz1, F_R_put_k1, ← hj2, F_R_put_k3, ← hu4, F_R_put_k4, if_neg h7]), xE_at hP9 hK hD9 ht hW⟩, hS.F ht⟩) hS.2.2 d_R_put_27
abbrev bc_R_isSegment : ByteArray := prog_12_method_9_code
def y_R_isSegment : MethodName := ⟨"CentrifugeUnitModel", "isSegment", "(III)Z"⟩
theorem d_R_isSegment_0 : decode bc_R_isSegment 0 = .ok (.iload_n 0, 1) := by decide +kernel
theorem d_R_isSegment_1 : decode bc_R_isSegment 1 = .ok (.tableswitch 127 0 4 #[35, 65, 75, 85, 115], 35) := by decide +kernel
theorem d_R_isSegment_36 : decode bc_R_isSegment 36 = .ok (.iload_n 1, 1) := by decide +kernel
theorem d_R_isSegment_37 : decode bc_R_isSegment 37 = .ok (.i2l, 1) := by decide +kernel
theorem d_R_isSegment_38 : decode bc_R_isSegment 38 = .ok (.lconst 0, 1) := by decide +kernel
theorem d_R_isSegment_39 : decode bc_R_isSegment 39 = .ok (.ldc2_w 91, 3) := by decide +kernel
theorem d_R_isSegment_42 : decode bc_R_isSegment 42 = .ok (.invokestatic 79, 3) := by decide +kernel
theorem d_R_isSegment_45 : decode bc_R_isSegment 45 = .ok (.ifCond .eq 19, 3) := by decide +kernel
theorem d_R_isSegment_48 : decode bc_R_isSegment 48 = .ok (.iload_n 2, 1) := by decide +kernel
theorem d_R_isSegment_49 : decode bc_R_isSegment 49 = .ok (.i2l, 1) := by decide +kernel
theorem d_R_isSegment_50 : decode bc_R_isSegment 50 = .ok (.lconst 1, 1) := by decide +kernel
theorem d_R_isSegment_51 : decode bc_R_isSegment 51 = .ok (.ldc2_w 104, 3) := by decide +kernel
theorem d_R_isSegment_54 : decode bc_R_isSegment 54 = .ok (.invokestatic 79, 3) := by decide +kernel
theorem d_R_isSegment_57 : decode bc_R_isSegment 57 = .ok (.ifCond .eq 7, 3) := by decide +kernel
theorem d_R_isSegment_60 : decode bc_R_isSegment 60 = .ok (.iconst 1, 1) := by decide +kernel
theorem d_R_isSegment_61 : decode bc_R_isSegment 61 = .ok (.goto 4, 3) := by decide +kernel
theorem d_R_isSegment_64 : decode bc_R_isSegment 64 = .ok (.iconst 0, 1) := by decide +kernel
theorem d_R_isSegment_65 : decode bc_R_isSegment 65 = .ok (.ireturn, 1) := by decide +kernel
theorem d_R_isSegment_66 : decode bc_R_isSegment 66 = .ok (.iload_n 1, 1) := by decide +kernel
theorem d_R_isSegment_67 : decode bc_R_isSegment 67 = .ok (.i2l, 1) := by decide +kernel
theorem d_R_isSegment_68 : decode bc_R_isSegment 68 = .ok (.lconst 1, 1) := by decide +kernel
theorem d_R_isSegment_69 : decode bc_R_isSegment 69 = .ok (.ldc2_w 106, 3) := by decide +kernel
theorem d_R_isSegment_72 : decode bc_R_isSegment 72 = .ok (.invokestatic 79, 3) := by decide +kernel
theorem d_R_isSegment_75 : decode bc_R_isSegment 75 = .ok (.ireturn, 1) := by decide +kernel
theorem d_R_isSegment_76 : decode bc_R_isSegment 76 = .ok (.iload_n 1, 1) := by decide +kernel
theorem d_R_isSegment_77 : decode bc_R_isSegment 77 = .ok (.i2l, 1) := by decide +kernel
theorem d_R_isSegment_78 : decode bc_R_isSegment 78 = .ok (.lconst 1, 1) := by decide +kernel
theorem d_R_isSegment_79 : decode bc_R_isSegment 79 = .ok (.ldc2_w 108, 3) := by decide +kernel
theorem d_R_isSegment_82 : decode bc_R_isSegment 82 = .ok (.invokestatic 79, 3) := by decide +kernel
theorem d_R_isSegment_85 : decode bc_R_isSegment 85 = .ok (.ireturn, 1) := by decide +kernel
theorem d_R_isSegment_86 : decode bc_R_isSegment 86 = .ok (.iload_n 1, 1) := by decide +kernel
theorem d_R_isSegment_87 : decode bc_R_isSegment 87 = .ok (.i2l, 1) := by decide +kernel
theorem d_R_isSegment_88 : decode bc_R_isSegment 88 = .ok (.lconst 0, 1) := by decide +kernel
theorem d_R_isSegment_89 : decode bc_R_isSegment 89 = .ok (.ldc2_w 91, 3) := by decide +kernel
theorem d_R_isSegment_92 : decode bc_R_isSegment 92 = .ok (.invokestatic 79, 3) := by decide +kernel
theorem d_R_isSegment_95 : decode bc_R_isSegment 95 = .ok (.ifCond .eq 19, 3) := by decide +kernel
theorem d_R_isSegment_98 : decode bc_R_isSegment 98 = .ok (.iload_n 2, 1) := by decide +kernel
theorem d_R_isSegment_99 : decode bc_R_isSegment 99 = .ok (.i2l, 1) := by decide +kernel
theorem d_R_isSegment_100 : decode bc_R_isSegment 100 = .ok (.lconst 1, 1) := by decide +kernel
theorem d_R_isSegment_101 : decode bc_R_isSegment 101 = .ok (.ldc2_w 110, 3) := by decide +kernel
theorem d_R_isSegment_104 : decode bc_R_isSegment 104 = .ok (.invokestatic 79, 3) := by decide +kernel
theorem d_R_isSegment_107 : decode bc_R_isSegment 107 = .ok (.ifCond .eq 7, 3) := by decide +kernel
theorem d_R_isSegment_110 : decode bc_R_isSegment 110 = .ok (.iconst 1, 1) := by decide +kernel
theorem d_R_isSegment_111 : decode bc_R_isSegment 111 = .ok (.goto 4, 3) := by decide +kernel
theorem d_R_isSegment_114 : decode bc_R_isSegment 114 = .ok (.iconst 0, 1) := by decide +kernel
theorem d_R_isSegment_115 : decode bc_R_isSegment 115 = .ok (.ireturn, 1) := by decide +kernel
theorem d_R_isSegment_116 : decode bc_R_isSegment 116 = .ok (.iload_n 1, 1) := by decide +kernel
theorem d_R_isSegment_117 : decode bc_R_isSegment 117 = .ok (.i2l, 1) := by decide +kernel
theorem d_R_isSegment_118 : decode bc_R_isSegment 118 = .ok (.ldc2_w 112, 3) := by decide +kernel
theorem d_R_isSegment_121 : decode bc_R_isSegment 121 = .ok (.ldc2_w 114, 3) := by decide +kernel
theorem d_R_isSegment_124 : decode bc_R_isSegment 124 = .ok (.invokestatic 79, 3) := by decide +kernel
theorem d_R_isSegment_127 : decode bc_R_isSegment 127 = .ok (.ireturn, 1) := by decide +kernel
theorem d_R_isSegment_128 : decode bc_R_isSegment 128 = .ok (.iload_n 0, 1) := by decide +kernel
theorem d_R_isSegment_129 : decode bc_R_isSegment 129 = .ok (.iconst (-1), 1) := by decide +kernel
theorem d_R_isSegment_130 : decode bc_R_isSegment 130 = .ok (.if_icmp .ne 7, 3) := by decide +kernel
theorem d_R_isSegment_133 : decode bc_R_isSegment 133 = .ok (.iconst 1, 1) := by decide +kernel
theorem d_R_isSegment_134 : decode bc_R_isSegment 134 = .ok (.goto 4, 3) := by decide +kernel
theorem d_R_isSegment_137 : decode bc_R_isSegment 137 = .ok (.iconst 0, 1) := by decide +kernel
theorem d_R_isSegment_138 : decode bc_R_isSegment 138 = .ok (.ireturn, 1) := by decide +kernel
def F_R_isSegment_k2 (M : XM) (a1 : Int32) (a2 : Int32) (a3 : Int32) (z2 : Int32) (z4 : Int32) : Int32 := (if z4 = 0 then 0 else 1)
def F_R_isSegment_k1 (M : XM) (a1 : Int32) (a2 : Int32) (a3 : Int32) (z2 : Int32) : Int32 := (if z2 = 0 then 0 else (F_R_isSegment_k2 M a1 a2 a3 z2 (F_R_in M (a3).toInt64 1 500)))
def F_R_isSegment_k3 (M : XM) (a1 : Int32) (a2 : Int32) (a3 : Int32) (z7 : Int32) : Int32 := z7
def F_R_isSegment_k4 (M : XM) (a1 : Int32) (a2 : Int32) (a3 : Int32) (z9 : Int32) : Int32 := z9
def F_R_isSegment_k6 (M : XM) (a1 : Int32) (a2 : Int32) (a3 : Int32) (z11 : Int32) (z13 : Int32) : Int32 := (if z13 = 0 then 0 else 1)
def F_R_isSegment_k5 (M : XM) (a1 : Int32) (a2 : Int32) (a3 : Int32) (z11 : Int32) : Int32 := (if z11 = 0 then 0 else (F_R_isSegment_k6 M a1 a2 a3 z11 (F_R_in M (a3).toInt64 1 9)))
def F_R_isSegment_k7 (M : XM) (a1 : Int32) (a2 : Int32) (a3 : Int32) (z16 : Int32) : Int32 := z16
def F_R_isSegment (M : XM) (a1 : Int32) (a2 : Int32) (a3 : Int32) : Int32 := (if a1 = 0 then (F_R_isSegment_k1 M a1 a2 a3 (F_R_in M (a2).toInt64 0 20000)) else (if a1 = 1 then (F_R_isSegment_k3 M a1 a2 a3 (F_R_in M (a2).toInt64 1 100000)) else (if a1 = 2 then (F_R_isSegment_k4 M a1 a2 a3 (F_R_in M (a2).toInt64 1 1000000)) else (if a1 = 3 then (F_R_isSegment_k5 M a1 a2 a3 (F_R_in M (a2).toInt64 0 20000)) else (if a1 = 4 then (F_R_isSegment_k7 M a1 a2 a3 (F_R_in M (a2).toInt64 (-2000) 4000)) else (if a1 = (-1) then 1 else 0))))))
theorem f01_R_isSegment (M : XM) (a1 : Int32) (a2 : Int32) (a3 : Int32) : F_R_isSegment M a1 a2 a3 = 0 ∨ F_R_isSegment M a1 a2 a3 = 1 := by
  simp only [F_R_isSegment_k2, F_R_isSegment_k1, F_R_isSegment_k3, F_R_isSegment_k4, F_R_isSegment_k6, F_R_isSegment_k5, F_R_isSegment_k7, F_R_isSegment]; repeat' split
  all_goals first | exact Or.inl rfl | exact Or.inr rfl | exact f01_R_in _ _ _ _ | simp
set_option maxHeartbeats 4000000 in
set_option maxRecDepth 100000 in
theorem c_R_isSegment (l : Launch) (dC : Nat → ClassId) (dI : Nat → Nat → Nat) (Z : Nat → ClassId) (A : Nat → Nat) (sz : Nat) (M : XM) (a1 : Int32) (a2 : Int32) (a3 : Int32) : Met l y_R_isSegment (.code y_R_isSegment bc_R_isSegment 3 (some .boolean) :: xw) ({ frames := 1, cells := 0, slots := 0, locals := 25 }) (va_Pc [.int a1, .int a2, .int a3] (xB (dC, dI) xcl (xty Z) sz [])) (k2_QcV (.int (F_R_isSegment M a1 a2 a3))) 0 0 (fun _ => False) := by
  refine Met.ofW (cc := bc_R_isSegment) (maxL := 3) (ret := (some .boolean)) (by decide) rfl ?_
  intro p e s m args below meth c s₁ B hml hv
  obtain ⟨rfl, hsz, hP, hK, hD0, hq⟩ := hv
  have hx := B.exec
  have hb := B.bytes
  have hr := B.returns
  have hts := atoms_spec (ws := (.code y_R_isSegment bc_R_isSegment 3 (some .boolean) :: xw)) B.pre
  have htt : ∀ w ∈ xw, w.before _ s = true := fun w h => hts w (List.mem_cons_of_mem _ h)
  have hown : s.vm.findClass "CentrifugeUnitModel" = some m.cls := findClass_of_methodNamed B.named
  have hlocks := B.notSynchronized
  subst hsz
  have hD : va_D (fun _ => True) [] := hD0
  have hP : va_P (dC, dI) xcl [] s.heap := hP
  have hl := lv_entry ([.int a1, .int a2, .int a3]) (n := 3) (Nat.le_of_ble_eq_true rfl)
  rw [lg_entry_eq]
  generalize (lg_sl ([.int a1, .int a2, .int a3]) ++ List.replicate (3 - (lg_sl ([.int a1, .int a2, .int a3])).length) Slot.unset).toArray = ls at hl ⊢
  have hl : lv_has ls 3 [(0, .int a1), (1, .int a2), (2, .int a3)] := hl
  refine lv_iload_n hx hb d_R_isSegment_0 rfl (lv_at hl 0 rfl) ?_
  by_cases h1 : a1 = 0
  · refine lv_tableIn (off := 35) (tgt := 36) hx hb d_R_isSegment_1 (by rw [h1]; decide) (by rw [h1]; decide) (by rw [h1]; decide) rfl ?_
    refine lv_iload_n hx hb d_R_isSegment_36 rfl (lv_at hl 1 rfl) ?_
    refine lv_i2l (v := (a2).toInt64) hx hb d_R_isSegment_37 rfl ?_
    refine lv_lconst (v := 0) hx hb d_R_isSegment_38 (by decide) ?_
    refine lv_ldc2 (v := 20000) hx hb hown (htt _ tw_932) d_R_isSegment_39 ?_
    have hPc := hP.sub (ws' := []) [] rfl
    have hDc := hD.sub (ws' := []) [] (by decide) rfl
    refine xk_p (va_runS (As := [.long (a2).toInt64, .long 0, .long 20000]) (rest := []) ⟨hx, hb, hml, hown, hts⟩ (c_R_in l dC dI Z A _ M (a2).toInt64 0 20000) (va_cwS 3 hts (xw_S _ tw_925 tw_926 tw_12 tw_927) rfl rfl rfl (by decide +kernel) ⟨Nat.le_of_ble_eq_true rfl, Nat.le_of_ble_eq_true rfl⟩) ⟨xB_blind, fun U hU hW => ⟨rfl, xB_at hPc hK hDc hq U hU hW⟩⟩ rfl rfl hl.1 rfl (lv_room (Nat.le_of_ble_eq_true rfl)) d_R_isSegment_42 ⟨Nat.le_of_ble_eq_true rfl, Nat.le_of_ble_eq_true rfl⟩) ?_
    refine lv_topi (fun z2 hz2 => ?_)
    refine lv_if_eq (tgt := 64) hx hb d_R_isSegment_45 rfl (fun h3 => ?_) (fun h3 => ?_)
    · refine lv_iconst (v := 0) hx hb d_R_isSegment_64 (by decide) ?_
      exact W.zret (ty := .boolean) hx hb hr rfl (fun t ht hW => ⟨(by rw [F_R_isSegment, if_pos h1, ← hz2, F_R_isSegment_k1, if_pos h3]), ht⟩) (fun _ h => absurd h List.not_mem_nil) d_R_isSegment_65
    · refine lv_iload_n hx hb d_R_isSegment_48 rfl (lv_at hl 2 rfl) ?_
      refine lv_i2l (v := (a3).toInt64) hx hb d_R_isSegment_49 rfl ?_
      refine lv_lconst (v := 1) hx hb d_R_isSegment_50 (by decide) ?_
      refine lv_ldc2 (v := 500) hx hb hown (htt _ tw_950) d_R_isSegment_51 ?_
      have hPc := hP.sub (ws' := []) [] rfl
      have hDc := hD.sub (ws' := []) [] (by decide) rfl
      refine xk_p (va_runS (As := [.long (a3).toInt64, .long 1, .long 500]) (rest := []) ⟨hx, hb, hml, hown, hts⟩ (c_R_in l dC dI Z A _ M (a3).toInt64 1 500) (va_cwS 3 hts (xw_S _ tw_925 tw_926 tw_12 tw_927) rfl rfl rfl (by decide +kernel) ⟨Nat.le_of_ble_eq_true rfl, Nat.le_of_ble_eq_true rfl⟩) ⟨xB_blind, fun U hU hW => ⟨rfl, xB_at hPc hK hDc hq U hU hW⟩⟩ rfl rfl hl.1 rfl (lv_room (Nat.le_of_ble_eq_true rfl)) d_R_isSegment_54 ⟨Nat.le_of_ble_eq_true rfl, Nat.le_of_ble_eq_true rfl⟩) ?_
      refine lv_topi (fun z4 hz4 => ?_)
      refine lv_if_eq (tgt := 64) hx hb d_R_isSegment_57 rfl (fun h5 => ?_) (fun h5 => ?_)
      · refine lv_iconst (v := 0) hx hb d_R_isSegment_64 (by decide) ?_
        exact W.zret (ty := .boolean) hx hb hr rfl (fun t ht hW => ⟨(by rw [F_R_isSegment, if_pos h1, ← hz2, F_R_isSegment_k1, if_neg h3, ← hz4, F_R_isSegment_k2, if_pos h5]), ht⟩) (fun _ h => absurd h List.not_mem_nil) d_R_isSegment_65
      · refine lv_iconst (v := 1) hx hb d_R_isSegment_60 (by decide) ?_
        refine lv_goto (tgt := 65) hx hb d_R_isSegment_61 rfl ?_
        exact W.zret (ty := .boolean) hx hb hr rfl (fun t ht hW => ⟨(by rw [F_R_isSegment, if_pos h1, ← hz2, F_R_isSegment_k1, if_neg h3, ← hz4, F_R_isSegment_k2, if_neg h5]), ht⟩) (fun _ h => absurd h List.not_mem_nil) d_R_isSegment_65
  by_cases h6 : a1 = 1
  · refine lv_tableIn (off := 65) (tgt := 66) hx hb d_R_isSegment_1 (by rw [h6]; decide) (by rw [h6]; decide) (by rw [h6]; decide) rfl ?_
    refine lv_iload_n hx hb d_R_isSegment_66 rfl (lv_at hl 1 rfl) ?_
    refine lv_i2l (v := (a2).toInt64) hx hb d_R_isSegment_67 rfl ?_
    refine lv_lconst (v := 1) hx hb d_R_isSegment_68 (by decide) ?_
    refine lv_ldc2 (v := 100000) hx hb hown (htt _ tw_951) d_R_isSegment_69 ?_
    have hPc := hP.sub (ws' := []) [] rfl
    have hDc := hD.sub (ws' := []) [] (by decide) rfl
    refine xk_p (va_runS (As := [.long (a2).toInt64, .long 1, .long 100000]) (rest := []) ⟨hx, hb, hml, hown, hts⟩ (c_R_in l dC dI Z A _ M (a2).toInt64 1 100000) (va_cwS 3 hts (xw_S _ tw_925 tw_926 tw_12 tw_927) rfl rfl rfl (by decide +kernel) ⟨Nat.le_of_ble_eq_true rfl, Nat.le_of_ble_eq_true rfl⟩) ⟨xB_blind, fun U hU hW => ⟨rfl, xB_at hPc hK hDc hq U hU hW⟩⟩ rfl rfl hl.1 rfl (lv_room (Nat.le_of_ble_eq_true rfl)) d_R_isSegment_72 ⟨Nat.le_of_ble_eq_true rfl, Nat.le_of_ble_eq_true rfl⟩) ?_
    refine lv_topi (fun z7 hz7 => ?_)
    exact W.zret (ty := .boolean) hx hb hr (xz_nar (by rw [hz7]; exact f01_R_in M (a2).toInt64 1 100000)) (fun t ht hW => ⟨(by rw [F_R_isSegment, if_neg h1, if_pos h6, ← hz7, F_R_isSegment_k3]), ht⟩) (fun _ h => absurd h List.not_mem_nil) d_R_isSegment_75
  by_cases h8 : a1 = 2
  · refine lv_tableIn (off := 75) (tgt := 76) hx hb d_R_isSegment_1 (by rw [h8]; decide) (by rw [h8]; decide) (by rw [h8]; decide) rfl ?_
    refine lv_iload_n hx hb d_R_isSegment_76 rfl (lv_at hl 1 rfl) ?_
    refine lv_i2l (v := (a2).toInt64) hx hb d_R_isSegment_77 rfl ?_
    refine lv_lconst (v := 1) hx hb d_R_isSegment_78 (by decide) ?_
    refine lv_ldc2 (v := 1000000) hx hb hown (htt _ tw_952) d_R_isSegment_79 ?_
    have hPc := hP.sub (ws' := []) [] rfl
    have hDc := hD.sub (ws' := []) [] (by decide) rfl
    refine xk_p (va_runS (As := [.long (a2).toInt64, .long 1, .long 1000000]) (rest := []) ⟨hx, hb, hml, hown, hts⟩ (c_R_in l dC dI Z A _ M (a2).toInt64 1 1000000) (va_cwS 3 hts (xw_S _ tw_925 tw_926 tw_12 tw_927) rfl rfl rfl (by decide +kernel) ⟨Nat.le_of_ble_eq_true rfl, Nat.le_of_ble_eq_true rfl⟩) ⟨xB_blind, fun U hU hW => ⟨rfl, xB_at hPc hK hDc hq U hU hW⟩⟩ rfl rfl hl.1 rfl (lv_room (Nat.le_of_ble_eq_true rfl)) d_R_isSegment_82 ⟨Nat.le_of_ble_eq_true rfl, Nat.le_of_ble_eq_true rfl⟩) ?_
    refine lv_topi (fun z9 hz9 => ?_)
    exact W.zret (ty := .boolean) hx hb hr (xz_nar (by rw [hz9]; exact f01_R_in M (a2).toInt64 1 1000000)) (fun t ht hW => ⟨(by rw [F_R_isSegment, if_neg h1, if_neg h6, if_pos h8, ← hz9, F_R_isSegment_k4]), ht⟩) (fun _ h => absurd h List.not_mem_nil) d_R_isSegment_85
  by_cases h10 : a1 = 3
  · refine lv_tableIn (off := 85) (tgt := 86) hx hb d_R_isSegment_1 (by rw [h10]; decide) (by rw [h10]; decide) (by rw [h10]; decide) rfl ?_
    refine lv_iload_n hx hb d_R_isSegment_86 rfl (lv_at hl 1 rfl) ?_
    refine lv_i2l (v := (a2).toInt64) hx hb d_R_isSegment_87 rfl ?_
    refine lv_lconst (v := 0) hx hb d_R_isSegment_88 (by decide) ?_
    refine lv_ldc2 (v := 20000) hx hb hown (htt _ tw_932) d_R_isSegment_89 ?_
    have hPc := hP.sub (ws' := []) [] rfl
    have hDc := hD.sub (ws' := []) [] (by decide) rfl
    refine xk_p (va_runS (As := [.long (a2).toInt64, .long 0, .long 20000]) (rest := []) ⟨hx, hb, hml, hown, hts⟩ (c_R_in l dC dI Z A _ M (a2).toInt64 0 20000) (va_cwS 3 hts (xw_S _ tw_925 tw_926 tw_12 tw_927) rfl rfl rfl (by decide +kernel) ⟨Nat.le_of_ble_eq_true rfl, Nat.le_of_ble_eq_true rfl⟩) ⟨xB_blind, fun U hU hW => ⟨rfl, xB_at hPc hK hDc hq U hU hW⟩⟩ rfl rfl hl.1 rfl (lv_room (Nat.le_of_ble_eq_true rfl)) d_R_isSegment_92 ⟨Nat.le_of_ble_eq_true rfl, Nat.le_of_ble_eq_true rfl⟩) ?_
    refine lv_topi (fun z11 hz11 => ?_)
    refine lv_if_eq (tgt := 114) hx hb d_R_isSegment_95 rfl (fun h12 => ?_) (fun h12 => ?_)
    · refine lv_iconst (v := 0) hx hb d_R_isSegment_114 (by decide) ?_
      exact W.zret (ty := .boolean) hx hb hr rfl (fun t ht hW => ⟨(by rw [F_R_isSegment, if_neg h1, if_neg h6, if_neg h8, if_pos h10, ← hz11, F_R_isSegment_k5, if_pos h12]), ht⟩) (fun _ h => absurd h List.not_mem_nil) d_R_isSegment_115
    · refine lv_iload_n hx hb d_R_isSegment_98 rfl (lv_at hl 2 rfl) ?_
      refine lv_i2l (v := (a3).toInt64) hx hb d_R_isSegment_99 rfl ?_
      refine lv_lconst (v := 1) hx hb d_R_isSegment_100 (by decide) ?_
      refine lv_ldc2 (v := 9) hx hb hown (htt _ tw_953) d_R_isSegment_101 ?_
      have hPc := hP.sub (ws' := []) [] rfl
      have hDc := hD.sub (ws' := []) [] (by decide) rfl
      refine xk_p (va_runS (As := [.long (a3).toInt64, .long 1, .long 9]) (rest := []) ⟨hx, hb, hml, hown, hts⟩ (c_R_in l dC dI Z A _ M (a3).toInt64 1 9) (va_cwS 3 hts (xw_S _ tw_925 tw_926 tw_12 tw_927) rfl rfl rfl (by decide +kernel) ⟨Nat.le_of_ble_eq_true rfl, Nat.le_of_ble_eq_true rfl⟩) ⟨xB_blind, fun U hU hW => ⟨rfl, xB_at hPc hK hDc hq U hU hW⟩⟩ rfl rfl hl.1 rfl (lv_room (Nat.le_of_ble_eq_true rfl)) d_R_isSegment_104 ⟨Nat.le_of_ble_eq_true rfl, Nat.le_of_ble_eq_true rfl⟩) ?_
      refine lv_topi (fun z13 hz13 => ?_)
      refine lv_if_eq (tgt := 114) hx hb d_R_isSegment_107 rfl (fun h14 => ?_) (fun h14 => ?_)
      · refine lv_iconst (v := 0) hx hb d_R_isSegment_114 (by decide) ?_
        exact W.zret (ty := .boolean) hx hb hr rfl (fun t ht hW => ⟨(by rw [F_R_isSegment, if_neg h1, if_neg h6, if_neg h8, if_pos h10, ← hz11, F_R_isSegment_k5, if_neg h12, ← hz13, F_R_isSegment_k6, if_pos h14]), ht⟩) (fun _ h => absurd h List.not_mem_nil) d_R_isSegment_115
      · refine lv_iconst (v := 1) hx hb d_R_isSegment_110 (by decide) ?_
        refine lv_goto (tgt := 115) hx hb d_R_isSegment_111 rfl ?_
        exact W.zret (ty := .boolean) hx hb hr rfl (fun t ht hW => ⟨(by rw [F_R_isSegment, if_neg h1, if_neg h6, if_neg h8, if_pos h10, ← hz11, F_R_isSegment_k5, if_neg h12, ← hz13, F_R_isSegment_k6, if_neg h14]), ht⟩) (fun _ h => absurd h List.not_mem_nil) d_R_isSegment_115
  by_cases h15 : a1 = 4
  · refine lv_tableIn (off := 115) (tgt := 116) hx hb d_R_isSegment_1 (by rw [h15]; decide) (by rw [h15]; decide) (by rw [h15]; decide) rfl ?_
    refine lv_iload_n hx hb d_R_isSegment_116 rfl (lv_at hl 1 rfl) ?_
    refine lv_i2l (v := (a2).toInt64) hx hb d_R_isSegment_117 rfl ?_
    refine lv_ldc2 (v := (-2000)) hx hb hown (htt _ tw_954) d_R_isSegment_118 ?_
    refine lv_ldc2 (v := 4000) hx hb hown (htt _ tw_955) d_R_isSegment_121 ?_
    have hPc := hP.sub (ws' := []) [] rfl
    have hDc := hD.sub (ws' := []) [] (by decide) rfl
    refine xk_p (va_runS (As := [.long (a2).toInt64, .long (-2000), .long 4000]) (rest := []) ⟨hx, hb, hml, hown, hts⟩ (c_R_in l dC dI Z A _ M (a2).toInt64 (-2000) 4000) (va_cwS 3 hts (xw_S _ tw_925 tw_926 tw_12 tw_927) rfl rfl rfl (by decide +kernel) ⟨Nat.le_of_ble_eq_true rfl, Nat.le_of_ble_eq_true rfl⟩) ⟨xB_blind, fun U hU hW => ⟨rfl, xB_at hPc hK hDc hq U hU hW⟩⟩ rfl rfl hl.1 rfl (lv_room (Nat.le_of_ble_eq_true rfl)) d_R_isSegment_124 ⟨Nat.le_of_ble_eq_true rfl, Nat.le_of_ble_eq_true rfl⟩) ?_
    refine lv_topi (fun z16 hz16 => ?_)
    exact W.zret (ty := .boolean) hx hb hr (xz_nar (by rw [hz16]; exact f01_R_in M (a2).toInt64 (-2000) 4000)) (fun t ht hW => ⟨(by rw [F_R_isSegment, if_neg h1, if_neg h6, if_neg h8, if_neg h10, if_pos h15, ← hz16, F_R_isSegment_k7]), ht⟩) (fun _ h => absurd h List.not_mem_nil) d_R_isSegment_127
  refine lv_tableOut (tgt := 128) hx hb d_R_isSegment_1 (by have q0 := lv_neT (a := 0) h1 (by decide); have q1 := lv_neT (a := 1) h6 (by decide); have q2 := lv_neT (a := 2) h8 (by decide); have q3 := lv_neT (a := 3) h10 (by decide); have q4 := lv_neT (a := 4) h15 (by decide); omega) rfl ?_
  refine lv_iload_n hx hb d_R_isSegment_128 rfl (lv_at hl 0 rfl) ?_
  refine lv_iconst (v := (-1)) hx hb d_R_isSegment_129 (by decide) ?_
  refine lv_icmp_ne (tgt := 137) hx hb d_R_isSegment_130 rfl (fun h17 => ?_) (fun h17 => ?_)
  · refine lv_iconst (v := 0) hx hb d_R_isSegment_137 (by decide) ?_
    exact W.zret (ty := .boolean) hx hb hr rfl (fun t ht hW => ⟨(by rw [F_R_isSegment, if_neg h1, if_neg h6, if_neg h8, if_neg h10, if_neg h15, if_neg h17]), ht⟩) (fun _ h => absurd h List.not_mem_nil) d_R_isSegment_138
  · refine lv_iconst (v := 1) hx hb d_R_isSegment_133 (by decide) ?_
    refine lv_goto (tgt := 138) hx hb d_R_isSegment_134 rfl ?_
    exact W.zret (ty := .boolean) hx hb hr rfl (fun t ht hW => ⟨(by rw [F_R_isSegment, if_neg h1, if_neg h6, if_neg h8, if_neg h10, if_neg h15, if_pos h17]), ht⟩) (fun _ h => absurd h List.not_mem_nil) d_R_isSegment_138
abbrev bc_R_start : ByteArray := prog_12_method_11_code
def y_R_start : MethodName := ⟨"CentrifugeUnitModel", "start", "()V"⟩
theorem d_R_start_0 : decode bc_R_start 0 = .ok (.aload_n 0, 1) := by decide +kernel
theorem d_R_start_1 : decode bc_R_start 1 = .ok (.aload_n 0, 1) := by decide +kernel
theorem d_R_start_2 : decode bc_R_start 2 = .ok (.getfield 45, 3) := by decide +kernel
theorem d_R_start_5 : decode bc_R_start 5 = .ok (.ifCond .eq 24, 3) := by decide +kernel
theorem d_R_start_8 : decode bc_R_start 8 = .ok (.aload_n 0, 1) := by decide +kernel
theorem d_R_start_9 : decode bc_R_start 9 = .ok (.getfield 95, 3) := by decide +kernel
theorem d_R_start_12 : decode bc_R_start 12 = .ok (.ifCond .ne 17, 3) := by decide +kernel
theorem d_R_start_15 : decode bc_R_start 15 = .ok (.aload_n 0, 1) := by decide +kernel
theorem d_R_start_16 : decode bc_R_start 16 = .ok (.getfield 120, 3) := by decide +kernel
theorem d_R_start_19 : decode bc_R_start 19 = .ok (.ifCond .eq 10, 3) := by decide +kernel
theorem d_R_start_22 : decode bc_R_start 22 = .ok (.aload_n 0, 1) := by decide +kernel
theorem d_R_start_23 : decode bc_R_start 23 = .ok (.invokevirtual 123, 3) := by decide +kernel
theorem d_R_start_26 : decode bc_R_start 26 = .ok (.ifCond .ne 7, 3) := by decide +kernel
theorem d_R_start_29 : decode bc_R_start 29 = .ok (.iconst 1, 1) := by decide +kernel
theorem d_R_start_30 : decode bc_R_start 30 = .ok (.goto 4, 3) := by decide +kernel
theorem d_R_start_33 : decode bc_R_start 33 = .ok (.iconst 0, 1) := by decide +kernel
theorem d_R_start_34 : decode bc_R_start 34 = .ok (.iconst 0, 1) := by decide +kernel
theorem d_R_start_35 : decode bc_R_start 35 = .ok (.invokevirtual 98, 3) := by decide +kernel
theorem d_R_start_38 : decode bc_R_start 38 = .ok (.ifCond .eq 4, 3) := by decide +kernel
theorem d_R_start_41 : decode bc_R_start 41 = .ok (.return_, 1) := by decide +kernel
theorem d_R_start_42 : decode bc_R_start 42 = .ok (.aload_n 0, 1) := by decide +kernel
theorem d_R_start_43 : decode bc_R_start 43 = .ok (.iconst 1, 1) := by decide +kernel
theorem d_R_start_44 : decode bc_R_start 44 = .ok (.putfield 95, 3) := by decide +kernel
theorem d_R_start_47 : decode bc_R_start 47 = .ok (.aload_n 0, 1) := by decide +kernel
theorem d_R_start_48 : decode bc_R_start 48 = .ok (.iconst 0, 1) := by decide +kernel
theorem d_R_start_49 : decode bc_R_start 49 = .ok (.putfield 127, 3) := by decide +kernel
theorem d_R_start_52 : decode bc_R_start 52 = .ok (.aload_n 0, 1) := by decide +kernel
theorem d_R_start_53 : decode bc_R_start 53 = .ok (.lconst 0, 1) := by decide +kernel
theorem d_R_start_54 : decode bc_R_start 54 = .ok (.putfield 130, 3) := by decide +kernel
theorem d_R_start_57 : decode bc_R_start 57 = .ok (.aload_n 0, 1) := by decide +kernel
theorem d_R_start_58 : decode bc_R_start 58 = .ok (.lconst 0, 1) := by decide +kernel
theorem d_R_start_59 : decode bc_R_start 59 = .ok (.putfield 134, 3) := by decide +kernel
theorem d_R_start_62 : decode bc_R_start 62 = .ok (.aload_n 0, 1) := by decide +kernel
theorem d_R_start_63 : decode bc_R_start 63 = .ok (.iconst 0, 1) := by decide +kernel
theorem d_R_start_64 : decode bc_R_start 64 = .ok (.putfield 137, 3) := by decide +kernel
theorem d_R_start_67 : decode bc_R_start 67 = .ok (.aload_n 0, 1) := by decide +kernel
theorem d_R_start_68 : decode bc_R_start 68 = .ok (.iconst (-1), 1) := by decide +kernel
theorem d_R_start_69 : decode bc_R_start 69 = .ok (.putfield 49, 3) := by decide +kernel
theorem d_R_start_72 : decode bc_R_start 72 = .ok (.aload_n 0, 1) := by decide +kernel
theorem d_R_start_73 : decode bc_R_start 73 = .ok (.iconst 0, 1) := by decide +kernel
theorem d_R_start_74 : decode bc_R_start 74 = .ok (.putfield 140, 3) := by decide +kernel
theorem d_R_start_77 : decode bc_R_start 77 = .ok (.aload_n 0, 1) := by decide +kernel
theorem d_R_start_78 : decode bc_R_start 78 = .ok (.iconst 0, 1) := by decide +kernel
theorem d_R_start_79 : decode bc_R_start 79 = .ok (.putfield 143, 3) := by decide +kernel
theorem d_R_start_82 : decode bc_R_start 82 = .ok (.aload_n 0, 1) := by decide +kernel
theorem d_R_start_83 : decode bc_R_start 83 = .ok (.lconst 0, 1) := by decide +kernel
theorem d_R_start_84 : decode bc_R_start 84 = .ok (.putfield 146, 3) := by decide +kernel
theorem d_R_start_87 : decode bc_R_start 87 = .ok (.aload_n 0, 1) := by decide +kernel
theorem d_R_start_88 : decode bc_R_start 88 = .ok (.lconst 0, 1) := by decide +kernel
theorem d_R_start_89 : decode bc_R_start 89 = .ok (.putfield 149, 3) := by decide +kernel
theorem d_R_start_92 : decode bc_R_start 92 = .ok (.return_, 1) := by decide +kernel
abbrev ap_R_start (M : XM) (u : (Int32 × Int32 × Int32 × Int64 × Int64 × Int32 × Int32 × Int32 × Int32 × Int64 × Int64)) : XM := ((va_up (va_up (va_up (va_up (va_up (va_up (va_up M.1 100 (u.1)) 110 (u.2.1)) 111 (u.2.2.1)) 114 (u.2.2.2.2.2.1)) 116 (u.2.2.2.2.2.2.1)) 112 (u.2.2.2.2.2.2.2.1)) 113 (u.2.2.2.2.2.2.2.2.1)), (va_up (va_up (va_up (va_up M.2.1 105 (u.2.2.2.1)) 106 (u.2.2.2.2.1)) 104 (u.2.2.2.2.2.2.2.2.2.1)) 107 (u.2.2.2.2.2.2.2.2.2.2)), M.2.2)
def F_R_start_k4 (M : XM) (j1 : Int32) (p5 : Int32 × Int32) : (Int32 × Int32 × Int32 × Int64 × Int64 × Int32 × Int32 × Int32 × Int32 × Int64 × Int64) := (if p5.1 = 0 then ((p5.2), 1, 0, 0, 0, 0, (-1), 0, 0, 0, 0) else ((p5.2), (M.1 110), (M.1 111), (M.2.1 105), (M.2.1 106), (M.1 114), (M.1 116), (M.1 112), (M.1 113), (M.2.1 104), (M.2.1 107)))
def F_R_start_k3 (M : XM) (j1 : Int32) : (Int32 × Int32 × Int32 × Int64 × Int64 × Int32 × Int32 × Int32 × Int32 × Int64 × Int64) := (F_R_start_k4 M j1 (F_R_throwing M j1 0))
def F_R_start_k1 (M : XM) (z10 : Int32) : Int32 := (if z10 = 0 then 1 else 0)
def F_R_start_j2 (M : XM) : Int32 := (if (M.1 109) = 0 then 1 else (if (M.1 110) = 0 then (if (M.1 102) = 0 then 1 else (F_R_start_k1 M (F_R_isLocked M))) else 1))
def F_R_start (M : XM) : (Int32 × Int32 × Int32 × Int64 × Int64 × Int32 × Int32 × Int32 × Int32 × Int64 × Int64) := (F_R_start_k3 M (F_R_start_j2 M))
set_option maxHeartbeats 4000000 in
set_option maxRecDepth 100000 in
theorem c_R_start (l : Launch) (dC : Nat → ClassId) (dI : Nat → Nat → Nat) (Z : Nat → ClassId) (A : Nat → Nat) (sz : Nat) (M : XM) : Met l y_R_start (.code y_R_start bc_R_start 1 none :: xw) ({ frames := 1, cells := 0, slots := 0, locals := 22 }) (va_Pc [.ref (A 20)] (xB (dC, dI) xcl (xty Z) sz [(A 20, xc20 Z A M)])) (va_Qv (fun u : (Int32 × Int32 × Int32 × Int64 × Int64 × Int32 × Int32 × Int32 × Int32 × Int64 × Int64) => u = F_R_start M) (fun u => xE (dC, dI) xcl (xty Z) (va_A [(A 20, xc20 Z A M)] sz) [(A 20, xc20 Z A (ap_R_start M u))]) (va_A [(A 20, xc20 Z A M)] sz)) 0 0 (va_A [(A 20, xc20 Z A M)] sz) := by
  refine Met.ofW (cc := bc_R_start) (maxL := 1) (ret := none) (by decide) rfl ?_
  intro p e s m args below meth c s₁ B hml hv
  obtain ⟨rfl, hsz, hP, hK, hD0, hq⟩ := hv
  have hx := B.exec
  have hb := B.bytes
  have hr := B.returns
  have hts := atoms_spec (ws := (.code y_R_start bc_R_start 1 none :: xw)) B.pre
  have htt : ∀ w ∈ xw, w.before _ s = true := fun w h => hts w (List.mem_cons_of_mem _ h)
  have hown : s.vm.findClass "CentrifugeUnitModel" = some m.cls := findClass_of_methodNamed B.named
  have hlocks := B.notSynchronized
  subst hsz
  have hD := hD0.self (sz := s.heap.size)
  generalize hAe : va_A [(A 20, xc20 Z A M)] s.heap.size = AA at hD ⊢
  have hA : ∀ q : Nat, s.heap.size ≤ q → AA q := fun q h => by rw [← hAe]; exact Or.inr h
  have hS : va_S AA s.heap s.heap [] := va_S.rf
  have hP : va_P (dC, dI) xcl [(A 20, .inr (10, [.int (M.1 100), .ref (A 21), .ref (A 22), .ref (A 23), .ref (A 24), .ref (A 25), .int (M.1 101), .ref (A 26), .ref (A 27), .ref (A 28), .int (M.1 102), .long (M.2.1 100), .int (M.1 103), .int (M.1 104), .int (M.1 105), .int (M.1 106), .int (M.1 107), .int (M.1 108), .long (M.2.1 101), .long (M.2.1 102), .long (M.2.1 103), .int (M.1 109), .int (M.1 110), .int (M.1 111), .int (M.1 112), .int (M.1 113), .long (M.2.1 104), .long (M.2.1 105), .long (M.2.1 106), .int (M.1 114), .int (M.1 115), .int (M.1 116), .int (M.1 117), .int (M.1 118), .int (M.1 119), .int (M.1 120), .int (M.1 121), .int (M.1 122), .int (M.1 123), .int (M.1 124), .long (M.2.1 107), .int (M.1 125), .ref (A 29), .ref (A 30), .ref (A 31)]))] s.heap := hP
  have hD : va_D AA [(A 20, .inr (10, [.int (M.1 100), .ref (A 21), .ref (A 22), .ref (A 23), .ref (A 24), .ref (A 25), .int (M.1 101), .ref (A 26), .ref (A 27), .ref (A 28), .int (M.1 102), .long (M.2.1 100), .int (M.1 103), .int (M.1 104), .int (M.1 105), .int (M.1 106), .int (M.1 107), .int (M.1 108), .long (M.2.1 101), .long (M.2.1 102), .long (M.2.1 103), .int (M.1 109), .int (M.1 110), .int (M.1 111), .int (M.1 112), .int (M.1 113), .long (M.2.1 104), .long (M.2.1 105), .long (M.2.1 106), .int (M.1 114), .int (M.1 115), .int (M.1 116), .int (M.1 117), .int (M.1 118), .int (M.1 119), .int (M.1 120), .int (M.1 121), .int (M.1 122), .int (M.1 123), .int (M.1 124), .long (M.2.1 107), .int (M.1 125), .ref (A 29), .ref (A 30), .ref (A 31)]))] := hD
  have hl := lv_entry ([.ref (A 20)]) (n := 1) (Nat.le_of_ble_eq_true rfl)
  rw [lg_entry_eq]
  generalize (lg_sl ([.ref (A 20)]) ++ List.replicate (1 - (lg_sl ([.ref (A 20)])).length) Slot.unset).toArray = ls at hl ⊢
  have hl : lv_has ls 1 [(0, .ref (A 20))] := hl
  refine lv_aload_n hx hb d_R_start_0 rfl (lv_at hl 0 rfl) ?_
  refine lv_aload_n hx hb d_R_start_1 rfl (lv_at hl 0 rfl) ?_
  refine va_get (D := (dC, dI)) (ci := 10) (v := .int (M.1 109)) (C := "CentrifugeUnitModel") (T := xF10) (N := 45) hx hb htt xin10 hown hK hP 0 rfl rfl 21 (by decide) (htt _ tw_800) (fun _ h9 => h9) rfl d_R_start_2 ?_
  refine xj_p 1 34 (fun q9 : Int32 => [(0, .ref (A 20))]) (fun q9 : Int32 => [.int q9, .ref (A 20)]) (fun q9 : Int32 => q9 = F_R_start_j2 M) (fun hJ2 => ?_) (fun ls j1 hl hj1 => ?_)
  · refine lv_if_eq (tgt := 29) hx hb d_R_start_5 rfl (fun h7 => ?_) (fun h7 => ?_)
    · refine lv_iconst (v := 1) hx hb d_R_start_29 (by decide) ?_
      refine lv_goto (tgt := 34) hx hb d_R_start_30 rfl ?_
      exact hJ2 _ 1 (lv_sub hl [0] rfl) (by rw [F_R_start_j2, if_pos h7])
    · refine lv_aload_n hx hb d_R_start_8 rfl (lv_at hl 0 rfl) ?_
      refine va_get (D := (dC, dI)) (ci := 10) (v := .int (M.1 110)) (C := "CentrifugeUnitModel") (T := xF10) (N := 45) hx hb htt xin10 hown hK hP 0 rfl rfl 22 (by decide) (htt _ tw_801) (fun _ h9 => h9) rfl d_R_start_9 ?_
      refine lv_if_ne (tgt := 29) hx hb d_R_start_12 rfl (fun h8 => ?_) (fun h8 => ?_)
      · refine lv_iconst (v := 1) hx hb d_R_start_29 (by decide) ?_
        refine lv_goto (tgt := 34) hx hb d_R_start_30 rfl ?_
        exact hJ2 _ 1 (lv_sub hl [0] rfl) (by rw [F_R_start_j2, if_neg h7, if_neg h8])
      · refine lv_aload_n hx hb d_R_start_15 rfl (lv_at hl 0 rfl) ?_
        refine va_get (D := (dC, dI)) (ci := 10) (v := .int (M.1 102)) (C := "CentrifugeUnitModel") (T := xF10) (N := 45) hx hb htt xin10 hown hK hP 0 rfl rfl 10 (by decide) (htt _ tw_789) (fun _ h9 => h9) rfl d_R_start_16 ?_
        refine lv_if_eq (tgt := 29) hx hb d_R_start_19 rfl (fun h9 => ?_) (fun h9 => ?_)
        · refine lv_iconst (v := 1) hx hb d_R_start_29 (by decide) ?_
          refine lv_goto (tgt := 34) hx hb d_R_start_30 rfl ?_
          exact hJ2 _ 1 (lv_sub hl [0] rfl) (by rw [F_R_start_j2, if_neg h7, if_pos h8, if_pos h9])
        · refine lv_aload_n hx hb d_R_start_22 rfl (lv_at hl 0 rfl) ?_
          have hPc := hP.sub (ws' := [(A 20, xc20 Z A M)]) [0] rfl
          have hDc := hD.sub (ws' := [(A 20, xc20 Z A M)]) [0] (by decide) rfl
          refine xk_p (va_runV (As := []) (rest := [.ref (A 20)]) ⟨hx, hb, hml, hown, hts⟩ (c_R_isLocked l dC dI Z A _ M) (cwV 0 hts (xw_V _ tw_960 tw_962 tp_13 tw_12 tw_963) rfl rfl rfl (by decide +kernel) ⟨Nat.le_of_ble_eq_true rfl, Nat.le_of_ble_eq_true rfl⟩) ⟨xB_blind, va_recv (q0 := 0) (ci := 10) hK hP rfl rfl, fun U hU hW => ⟨rfl, xB_at hPc hK hDc hq U hU hW⟩⟩ rfl rfl hl.1 rfl (lv_room (Nat.le_of_ble_eq_true rfl)) d_R_start_23 ⟨Nat.le_of_ble_eq_true rfl, Nat.le_of_ble_eq_true rfl⟩) ?_
          refine lv_topi (fun z10 hz10 => ?_)
          refine lv_if_ne (tgt := 33) hx hb d_R_start_26 rfl (fun h11 => ?_) (fun h11 => ?_)
          · refine lv_iconst (v := 0) hx hb d_R_start_33 (by decide) ?_
            exact hJ2 _ 0 (lv_sub hl [0] rfl) (by rw [F_R_start_j2, if_neg h7, if_pos h8, if_neg h9, ← hz10, F_R_start_k1, if_neg h11])
          · refine lv_iconst (v := 1) hx hb d_R_start_29 (by decide) ?_
            refine lv_goto (tgt := 34) hx hb d_R_start_30 rfl ?_
            exact hJ2 _ 1 (lv_sub hl [0] rfl) (by rw [F_R_start_j2, if_neg h7, if_pos h8, if_neg h9, ← hz10, F_R_start_k1, if_pos h11])
  · refine lv_iconst (v := 0) hx hb d_R_start_34 (by decide) ?_
    have hPc := hP.sub (ws' := [(A 20, xc20 Z A M)]) [0] rfl
    have hDc := hD.sub (ws' := [(A 20, xc20 Z A M)]) [0] (by decide) rfl
    refine xk_i (wc := [(A 20, xc20 Z A M)]) (wr := []) (va_runV (As := [.int j1, .int 0]) (rest := []) ⟨hx, hb, hml, hown, hts⟩ (c_R_throwing l dC dI Z A _ M j1 0) (cwV 2 hts (xw_V _ tw_934 tw_936 tp_12 tw_12 tw_937) rfl rfl rfl (by decide +kernel) ⟨Nat.le_of_ble_eq_true rfl, Nat.le_of_ble_eq_true rfl⟩) ⟨xB_blind, va_recv (q0 := 0) (ci := 10) hK hP rfl rfl, fun U hU hW => ⟨rfl, xB_at hPc hK hDc hq U hU hW⟩⟩ rfl rfl hl.1 rfl (lv_room (Nat.le_of_ble_eq_true rfl)) d_R_start_35 ⟨Nat.le_of_ble_eq_true rfl, Nat.le_of_ble_eq_true rfl⟩) hP hD hS hA [0] [] rfl rfl (by decide) (by decide) (fun r4 u3 H locs hu3 hP hD hS => ?_)
    obtain ⟨p5, rfl, rfl⟩ : ∃ z : Int32 × Int32, r4 = z.1 ∧ u3 = z.2 := ⟨(r4, u3), rfl, rfl⟩
    replace hu3 : p5 = (F_R_throwing M j1 0) := hu3
    have hP : va_P (dC, dI) xcl [(A 20, .inr (10, [.int (p5.2), .ref (A 21), .ref (A 22), .ref (A 23), .ref (A 24), .ref (A 25), .int (M.1 101), .ref (A 26), .ref (A 27), .ref (A 28), .int (M.1 102), .long (M.2.1 100), .int (M.1 103), .int (M.1 104), .int (M.1 105), .int (M.1 106), .int (M.1 107), .int (M.1 108), .long (M.2.1 101), .long (M.2.1 102), .long (M.2.1 103), .int (M.1 109), .int (M.1 110), .int (M.1 111), .int (M.1 112), .int (M.1 113), .long (M.2.1 104), .long (M.2.1 105), .long (M.2.1 106), .int (M.1 114), .int (M.1 115), .int (M.1 116), .int (M.1 117), .int (M.1 118), .int (M.1 119), .int (M.1 120), .int (M.1 121), .int (M.1 122), .int (M.1 123), .int (M.1 124), .long (M.2.1 107), .int (M.1 125), .ref (A 29), .ref (A 30), .ref (A 31)]))] H := hP
    have hD : va_D AA [(A 20, .inr (10, [.int (p5.2), .ref (A 21), .ref (A 22), .ref (A 23), .ref (A 24), .ref (A 25), .int (M.1 101), .ref (A 26), .ref (A 27), .ref (A 28), .int (M.1 102), .long (M.2.1 100), .int (M.1 103), .int (M.1 104), .int (M.1 105), .int (M.1 106), .int (M.1 107), .int (M.1 108), .long (M.2.1 101), .long (M.2.1 102), .long (M.2.1 103), .int (M.1 109), .int (M.1 110), .int (M.1 111), .int (M.1 112), .int (M.1 113), .long (M.2.1 104), .long (M.2.1 105), .long (M.2.1 106), .int (M.1 114), .int (M.1 115), .int (M.1 116), .int (M.1 117), .int (M.1 118), .int (M.1 119), .int (M.1 120), .int (M.1 121), .int (M.1 122), .int (M.1 123), .int (M.1 124), .long (M.2.1 107), .int (M.1 125), .ref (A 29), .ref (A 30), .ref (A 31)]))] := hD
    refine lv_if_eq (tgt := 42) hx hb d_R_start_38 rfl (fun h6 => ?_) (fun h6 => ?_)
    · refine lv_aload_n hx hb d_R_start_42 rfl (lv_at hl 0 rfl) ?_
      refine lv_iconst (v := 1) hx hb d_R_start_43 (by decide) ?_
      refine va_put (D := (dC, dI)) (ci := 10) (v := .int 1) (ty := .int) (C := "CentrifugeUnitModel") (T := xF10) (N := 45) hx hb htt xin10 xT10 xTo10 xNm10 hown hK hP hD hS 0 rfl rfl 22 (by decide) (htt _ tw_801) (fun _ h9 => h9) rfl (by decide +kernel) rfl rfl (Nat.le_of_ble_eq_true rfl) d_R_start_44 (fun H locs hP hD hS => ?_)
      have hP : va_P (dC, dI) xcl [(A 20, .inr (10, [.int (p5.2), .ref (A 21), .ref (A 22), .ref (A 23), .ref (A 24), .ref (A 25), .int (M.1 101), .ref (A 26), .ref (A 27), .ref (A 28), .int (M.1 102), .long (M.2.1 100), .int (M.1 103), .int (M.1 104), .int (M.1 105), .int (M.1 106), .int (M.1 107), .int (M.1 108), .long (M.2.1 101), .long (M.2.1 102), .long (M.2.1 103), .int (M.1 109), .int 1, .int (M.1 111), .int (M.1 112), .int (M.1 113), .long (M.2.1 104), .long (M.2.1 105), .long (M.2.1 106), .int (M.1 114), .int (M.1 115), .int (M.1 116), .int (M.1 117), .int (M.1 118), .int (M.1 119), .int (M.1 120), .int (M.1 121), .int (M.1 122), .int (M.1 123), .int (M.1 124), .long (M.2.1 107), .int (M.1 125), .ref (A 29), .ref (A 30), .ref (A 31)]))] H := hP
      have hD : va_D AA [(A 20, .inr (10, [.int (p5.2), .ref (A 21), .ref (A 22), .ref (A 23), .ref (A 24), .ref (A 25), .int (M.1 101), .ref (A 26), .ref (A 27), .ref (A 28), .int (M.1 102), .long (M.2.1 100), .int (M.1 103), .int (M.1 104), .int (M.1 105), .int (M.1 106), .int (M.1 107), .int (M.1 108), .long (M.2.1 101), .long (M.2.1 102), .long (M.2.1 103), .int (M.1 109), .int 1, .int (M.1 111), .int (M.1 112), .int (M.1 113), .long (M.2.1 104), .long (M.2.1 105), .long (M.2.1 106), .int (M.1 114), .int (M.1 115), .int (M.1 116), .int (M.1 117), .int (M.1 118), .int (M.1 119), .int (M.1 120), .int (M.1 121), .int (M.1 122), .int (M.1 123), .int (M.1 124), .long (M.2.1 107), .int (M.1 125), .ref (A 29), .ref (A 30), .ref (A 31)]))] := hD
      refine lv_aload_n hx hb d_R_start_47 rfl (lv_at hl 0 rfl) ?_
      refine lv_iconst (v := 0) hx hb d_R_start_48 (by decide) ?_
      refine va_put (D := (dC, dI)) (ci := 10) (v := .int 0) (ty := .int) (C := "CentrifugeUnitModel") (T := xF10) (N := 45) hx hb htt xin10 xT10 xTo10 xNm10 hown hK hP hD hS 0 rfl rfl 23 (by decide) (htt _ tw_802) (fun _ h9 => h9) rfl (by decide +kernel) rfl rfl (Nat.le_of_ble_eq_true rfl) d_R_start_49 (fun H locs hP hD hS => ?_)
      have hP : va_P (dC, dI) xcl [(A 20, .inr (10, [.int (p5.2), .ref (A 21), .ref (A 22), .ref (A 23), .ref (A 24), .ref (A 25), .int (M.1 101), .ref (A 26), .ref (A 27), .ref (A 28), .int (M.1 102), .long (M.2.1 100), .int (M.1 103), .int (M.1 104), .int (M.1 105), .int (M.1 106), .int (M.1 107), .int (M.1 108), .long (M.2.1 101), .long (M.2.1 102), .long (M.2.1 103), .int (M.1 109), .int 1, .int 0, .int (M.1 112), .int (M.1 113), .long (M.2.1 104), .long (M.2.1 105), .long (M.2.1 106), .int (M.1 114), .int (M.1 115), .int (M.1 116), .int (M.1 117), .int (M.1 118), .int (M.1 119), .int (M.1 120), .int (M.1 121), .int (M.1 122), .int (M.1 123), .int (M.1 124), .long (M.2.1 107), .int (M.1 125), .ref (A 29), .ref (A 30), .ref (A 31)]))] H := hP
      have hD : va_D AA [(A 20, .inr (10, [.int (p5.2), .ref (A 21), .ref (A 22), .ref (A 23), .ref (A 24), .ref (A 25), .int (M.1 101), .ref (A 26), .ref (A 27), .ref (A 28), .int (M.1 102), .long (M.2.1 100), .int (M.1 103), .int (M.1 104), .int (M.1 105), .int (M.1 106), .int (M.1 107), .int (M.1 108), .long (M.2.1 101), .long (M.2.1 102), .long (M.2.1 103), .int (M.1 109), .int 1, .int 0, .int (M.1 112), .int (M.1 113), .long (M.2.1 104), .long (M.2.1 105), .long (M.2.1 106), .int (M.1 114), .int (M.1 115), .int (M.1 116), .int (M.1 117), .int (M.1 118), .int (M.1 119), .int (M.1 120), .int (M.1 121), .int (M.1 122), .int (M.1 123), .int (M.1 124), .long (M.2.1 107), .int (M.1 125), .ref (A 29), .ref (A 30), .ref (A 31)]))] := hD
      refine lv_aload_n hx hb d_R_start_52 rfl (lv_at hl 0 rfl) ?_
      refine lv_lconst (v := 0) hx hb d_R_start_53 (by decide) ?_
      refine va_put (D := (dC, dI)) (ci := 10) (v := .long 0) (ty := .long) (C := "CentrifugeUnitModel") (T := xF10) (N := 45) hx hb htt xin10 xT10 xTo10 xNm10 hown hK hP hD hS 0 rfl rfl 27 (by decide) (htt _ tw_806) (fun _ h9 => h9) rfl (by decide +kernel) rfl rfl (Nat.le_of_ble_eq_true rfl) d_R_start_54 (fun H locs hP hD hS => ?_)
      have hP : va_P (dC, dI) xcl [(A 20, .inr (10, [.int (p5.2), .ref (A 21), .ref (A 22), .ref (A 23), .ref (A 24), .ref (A 25), .int (M.1 101), .ref (A 26), .ref (A 27), .ref (A 28), .int (M.1 102), .long (M.2.1 100), .int (M.1 103), .int (M.1 104), .int (M.1 105), .int (M.1 106), .int (M.1 107), .int (M.1 108), .long (M.2.1 101), .long (M.2.1 102), .long (M.2.1 103), .int (M.1 109), .int 1, .int 0, .int (M.1 112), .int (M.1 113), .long (M.2.1 104), .long 0, .long (M.2.1 106), .int (M.1 114), .int (M.1 115), .int (M.1 116), .int (M.1 117), .int (M.1 118), .int (M.1 119), .int (M.1 120), .int (M.1 121), .int (M.1 122), .int (M.1 123), .int (M.1 124), .long (M.2.1 107), .int (M.1 125), .ref (A 29), .ref (A 30), .ref (A 31)]))] H := hP
      have hD : va_D AA [(A 20, .inr (10, [.int (p5.2), .ref (A 21), .ref (A 22), .ref (A 23), .ref (A 24), .ref (A 25), .int (M.1 101), .ref (A 26), .ref (A 27), .ref (A 28), .int (M.1 102), .long (M.2.1 100), .int (M.1 103), .int (M.1 104), .int (M.1 105), .int (M.1 106), .int (M.1 107), .int (M.1 108), .long (M.2.1 101), .long (M.2.1 102), .long (M.2.1 103), .int (M.1 109), .int 1, .int 0, .int (M.1 112), .int (M.1 113), .long (M.2.1 104), .long 0, .long (M.2.1 106), .int (M.1 114), .int (M.1 115), .int (M.1 116), .int (M.1 117), .int (M.1 118), .int (M.1 119), .int (M.1 120), .int (M.1 121), .int (M.1 122), .int (M.1 123), .int (M.1 124), .long (M.2.1 107), .int (M.1 125), .ref (A 29), .ref (A 30), .ref (A 31)]))] := hD
      refine lv_aload_n hx hb d_R_start_57 rfl (lv_at hl 0 rfl) ?_
      refine lv_lconst (v := 0) hx hb d_R_start_58 (by decide) ?_
      refine va_put (D := (dC, dI)) (ci := 10) (v := .long 0) (ty := .long) (C := "CentrifugeUnitModel") (T := xF10) (N := 45) hx hb htt xin10 xT10 xTo10 xNm10 hown hK hP hD hS 0 rfl rfl 28 (by decide) (htt _ tw_807) (fun _ h9 => h9) rfl (by decide +kernel) rfl rfl (Nat.le_of_ble_eq_true rfl) d_R_start_59 (fun H locs hP hD hS => ?_)
      have hP : va_P (dC, dI) xcl [(A 20, .inr (10, [.int (p5.2), .ref (A 21), .ref (A 22), .ref (A 23), .ref (A 24), .ref (A 25), .int (M.1 101), .ref (A 26), .ref (A 27), .ref (A 28), .int (M.1 102), .long (M.2.1 100), .int (M.1 103), .int (M.1 104), .int (M.1 105), .int (M.1 106), .int (M.1 107), .int (M.1 108), .long (M.2.1 101), .long (M.2.1 102), .long (M.2.1 103), .int (M.1 109), .int 1, .int 0, .int (M.1 112), .int (M.1 113), .long (M.2.1 104), .long 0, .long 0, .int (M.1 114), .int (M.1 115), .int (M.1 116), .int (M.1 117), .int (M.1 118), .int (M.1 119), .int (M.1 120), .int (M.1 121), .int (M.1 122), .int (M.1 123), .int (M.1 124), .long (M.2.1 107), .int (M.1 125), .ref (A 29), .ref (A 30), .ref (A 31)]))] H := hP
      have hD : va_D AA [(A 20, .inr (10, [.int (p5.2), .ref (A 21), .ref (A 22), .ref (A 23), .ref (A 24), .ref (A 25), .int (M.1 101), .ref (A 26), .ref (A 27), .ref (A 28), .int (M.1 102), .long (M.2.1 100), .int (M.1 103), .int (M.1 104), .int (M.1 105), .int (M.1 106), .int (M.1 107), .int (M.1 108), .long (M.2.1 101), .long (M.2.1 102), .long (M.2.1 103), .int (M.1 109), .int 1, .int 0, .int (M.1 112), .int (M.1 113), .long (M.2.1 104), .long 0, .long 0, .int (M.1 114), .int (M.1 115), .int (M.1 116), .int (M.1 117), .int (M.1 118), .int (M.1 119), .int (M.1 120), .int (M.1 121), .int (M.1 122), .int (M.1 123), .int (M.1 124), .long (M.2.1 107), .int (M.1 125), .ref (A 29), .ref (A 30), .ref (A 31)]))] := hD
      refine lv_aload_n hx hb d_R_start_62 rfl (lv_at hl 0 rfl) ?_
      refine lv_iconst (v := 0) hx hb d_R_start_63 (by decide) ?_
      refine va_put (D := (dC, dI)) (ci := 10) (v := .int 0) (ty := .boolean) (C := "CentrifugeUnitModel") (T := xF10) (N := 45) hx hb htt xin10 xT10 xTo10 xNm10 hown hK hP hD hS 0 rfl rfl 29 (by decide) (htt _ tw_808) (fun _ h9 => h9) rfl (by decide +kernel) rfl rfl (Nat.le_of_ble_eq_true rfl) d_R_start_64 (fun H locs hP hD hS => ?_)
      have hP : va_P (dC, dI) xcl [(A 20, .inr (10, [.int (p5.2), .ref (A 21), .ref (A 22), .ref (A 23), .ref (A 24), .ref (A 25), .int (M.1 101), .ref (A 26), .ref (A 27), .ref (A 28), .int (M.1 102), .long (M.2.1 100), .int (M.1 103), .int (M.1 104), .int (M.1 105), .int (M.1 106), .int (M.1 107), .int (M.1 108), .long (M.2.1 101), .long (M.2.1 102), .long (M.2.1 103), .int (M.1 109), .int 1, .int 0, .int (M.1 112), .int (M.1 113), .long (M.2.1 104), .long 0, .long 0, .int 0, .int (M.1 115), .int (M.1 116), .int (M.1 117), .int (M.1 118), .int (M.1 119), .int (M.1 120), .int (M.1 121), .int (M.1 122), .int (M.1 123), .int (M.1 124), .long (M.2.1 107), .int (M.1 125), .ref (A 29), .ref (A 30), .ref (A 31)]))] H := hP
      have hD : va_D AA [(A 20, .inr (10, [.int (p5.2), .ref (A 21), .ref (A 22), .ref (A 23), .ref (A 24), .ref (A 25), .int (M.1 101), .ref (A 26), .ref (A 27), .ref (A 28), .int (M.1 102), .long (M.2.1 100), .int (M.1 103), .int (M.1 104), .int (M.1 105), .int (M.1 106), .int (M.1 107), .int (M.1 108), .long (M.2.1 101), .long (M.2.1 102), .long (M.2.1 103), .int (M.1 109), .int 1, .int 0, .int (M.1 112), .int (M.1 113), .long (M.2.1 104), .long 0, .long 0, .int 0, .int (M.1 115), .int (M.1 116), .int (M.1 117), .int (M.1 118), .int (M.1 119), .int (M.1 120), .int (M.1 121), .int (M.1 122), .int (M.1 123), .int (M.1 124), .long (M.2.1 107), .int (M.1 125), .ref (A 29), .ref (A 30), .ref (A 31)]))] := hD
      refine lv_aload_n hx hb d_R_start_67 rfl (lv_at hl 0 rfl) ?_
      refine lv_iconst (v := (-1)) hx hb d_R_start_68 (by decide) ?_
      refine va_put (D := (dC, dI)) (ci := 10) (v := .int (-1)) (ty := .int) (C := "CentrifugeUnitModel") (T := xF10) (N := 45) hx hb htt xin10 xT10 xTo10 xNm10 hown hK hP hD hS 0 rfl rfl 31 (by decide) (htt _ tw_810) (fun _ h9 => h9) rfl (by decide +kernel) rfl rfl (Nat.le_of_ble_eq_true rfl) d_R_start_69 (fun H locs hP hD hS => ?_)
      have hP : va_P (dC, dI) xcl [(A 20, .inr (10, [.int (p5.2), .ref (A 21), .ref (A 22), .ref (A 23), .ref (A 24), .ref (A 25), .int (M.1 101), .ref (A 26), .ref (A 27), .ref (A 28), .int (M.1 102), .long (M.2.1 100), .int (M.1 103), .int (M.1 104), .int (M.1 105), .int (M.1 106), .int (M.1 107), .int (M.1 108), .long (M.2.1 101), .long (M.2.1 102), .long (M.2.1 103), .int (M.1 109), .int 1, .int 0, .int (M.1 112), .int (M.1 113), .long (M.2.1 104), .long 0, .long 0, .int 0, .int (M.1 115), .int (-1), .int (M.1 117), .int (M.1 118), .int (M.1 119), .int (M.1 120), .int (M.1 121), .int (M.1 122), .int (M.1 123), .int (M.1 124), .long (M.2.1 107), .int (M.1 125), .ref (A 29), .ref (A 30), .ref (A 31)]))] H := hP
      have hD : va_D AA [(A 20, .inr (10, [.int (p5.2), .ref (A 21), .ref (A 22), .ref (A 23), .ref (A 24), .ref (A 25), .int (M.1 101), .ref (A 26), .ref (A 27), .ref (A 28), .int (M.1 102), .long (M.2.1 100), .int (M.1 103), .int (M.1 104), .int (M.1 105), .int (M.1 106), .int (M.1 107), .int (M.1 108), .long (M.2.1 101), .long (M.2.1 102), .long (M.2.1 103), .int (M.1 109), .int 1, .int 0, .int (M.1 112), .int (M.1 113), .long (M.2.1 104), .long 0, .long 0, .int 0, .int (M.1 115), .int (-1), .int (M.1 117), .int (M.1 118), .int (M.1 119), .int (M.1 120), .int (M.1 121), .int (M.1 122), .int (M.1 123), .int (M.1 124), .long (M.2.1 107), .int (M.1 125), .ref (A 29), .ref (A 30), .ref (A 31)]))] := hD
      refine lv_aload_n hx hb d_R_start_72 rfl (lv_at hl 0 rfl) ?_
      refine lv_iconst (v := 0) hx hb d_R_start_73 (by decide) ?_
      refine va_put (D := (dC, dI)) (ci := 10) (v := .int 0) (ty := .int) (C := "CentrifugeUnitModel") (T := xF10) (N := 45) hx hb htt xin10 xT10 xTo10 xNm10 hown hK hP hD hS 0 rfl rfl 24 (by decide) (htt _ tw_803) (fun _ h9 => h9) rfl (by decide +kernel) rfl rfl (Nat.le_of_ble_eq_true rfl) d_R_start_74 (fun H locs hP hD hS => ?_)
      have hP : va_P (dC, dI) xcl [(A 20, .inr (10, [.int (p5.2), .ref (A 21), .ref (A 22), .ref (A 23), .ref (A 24), .ref (A 25), .int (M.1 101), .ref (A 26), .ref (A 27), .ref (A 28), .int (M.1 102), .long (M.2.1 100), .int (M.1 103), .int (M.1 104), .int (M.1 105), .int (M.1 106), .int (M.1 107), .int (M.1 108), .long (M.2.1 101), .long (M.2.1 102), .long (M.2.1 103), .int (M.1 109), .int 1, .int 0, .int 0, .int (M.1 113), .long (M.2.1 104), .long 0, .long 0, .int 0, .int (M.1 115), .int (-1), .int (M.1 117), .int (M.1 118), .int (M.1 119), .int (M.1 120), .int (M.1 121), .int (M.1 122), .int (M.1 123), .int (M.1 124), .long (M.2.1 107), .int (M.1 125), .ref (A 29), .ref (A 30), .ref (A 31)]))] H := hP
      have hD : va_D AA [(A 20, .inr (10, [.int (p5.2), .ref (A 21), .ref (A 22), .ref (A 23), .ref (A 24), .ref (A 25), .int (M.1 101), .ref (A 26), .ref (A 27), .ref (A 28), .int (M.1 102), .long (M.2.1 100), .int (M.1 103), .int (M.1 104), .int (M.1 105), .int (M.1 106), .int (M.1 107), .int (M.1 108), .long (M.2.1 101), .long (M.2.1 102), .long (M.2.1 103), .int (M.1 109), .int 1, .int 0, .int 0, .int (M.1 113), .long (M.2.1 104), .long 0, .long 0, .int 0, .int (M.1 115), .int (-1), .int (M.1 117), .int (M.1 118), .int (M.1 119), .int (M.1 120), .int (M.1 121), .int (M.1 122), .int (M.1 123), .int (M.1 124), .long (M.2.1 107), .int (M.1 125), .ref (A 29), .ref (A 30), .ref (A 31)]))] := hD
      refine lv_aload_n hx hb d_R_start_77 rfl (lv_at hl 0 rfl) ?_
      refine lv_iconst (v := 0) hx hb d_R_start_78 (by decide) ?_
      refine va_put (D := (dC, dI)) (ci := 10) (v := .int 0) (ty := .int) (C := "CentrifugeUnitModel") (T := xF10) (N := 45) hx hb htt xin10 xT10 xTo10 xNm10 hown hK hP hD hS 0 rfl rfl 25 (by decide) (htt _ tw_804) (fun _ h9 => h9) rfl (by decide +kernel) rfl rfl (Nat.le_of_ble_eq_true rfl) d_R_start_79 (fun H locs hP hD hS => ?_)
      have hP : va_P (dC, dI) xcl [(A 20, .inr (10, [.int (p5.2), .ref (A 21), .ref (A 22), .ref (A 23), .ref (A 24), .ref (A 25), .int (M.1 101), .ref (A 26), .ref (A 27), .ref (A 28), .int (M.1 102), .long (M.2.1 100), .int (M.1 103), .int (M.1 104), .int (M.1 105), .int (M.1 106), .int (M.1 107), .int (M.1 108), .long (M.2.1 101), .long (M.2.1 102), .long (M.2.1 103), .int (M.1 109), .int 1, .int 0, .int 0, .int 0, .long (M.2.1 104), .long 0, .long 0, .int 0, .int (M.1 115), .int (-1), .int (M.1 117), .int (M.1 118), .int (M.1 119), .int (M.1 120), .int (M.1 121), .int (M.1 122), .int (M.1 123), .int (M.1 124), .long (M.2.1 107), .int (M.1 125), .ref (A 29), .ref (A 30), .ref (A 31)]))] H := hP
      have hD : va_D AA [(A 20, .inr (10, [.int (p5.2), .ref (A 21), .ref (A 22), .ref (A 23), .ref (A 24), .ref (A 25), .int (M.1 101), .ref (A 26), .ref (A 27), .ref (A 28), .int (M.1 102), .long (M.2.1 100), .int (M.1 103), .int (M.1 104), .int (M.1 105), .int (M.1 106), .int (M.1 107), .int (M.1 108), .long (M.2.1 101), .long (M.2.1 102), .long (M.2.1 103), .int (M.1 109), .int 1, .int 0, .int 0, .int 0, .long (M.2.1 104), .long 0, .long 0, .int 0, .int (M.1 115), .int (-1), .int (M.1 117), .int (M.1 118), .int (M.1 119), .int (M.1 120), .int (M.1 121), .int (M.1 122), .int (M.1 123), .int (M.1 124), .long (M.2.1 107), .int (M.1 125), .ref (A 29), .ref (A 30), .ref (A 31)]))] := hD
      refine lv_aload_n hx hb d_R_start_82 rfl (lv_at hl 0 rfl) ?_
      refine lv_lconst (v := 0) hx hb d_R_start_83 (by decide) ?_
      refine va_put (D := (dC, dI)) (ci := 10) (v := .long 0) (ty := .long) (C := "CentrifugeUnitModel") (T := xF10) (N := 45) hx hb htt xin10 xT10 xTo10 xNm10 hown hK hP hD hS 0 rfl rfl 26 (by decide) (htt _ tw_805) (fun _ h9 => h9) rfl (by decide +kernel) rfl rfl (Nat.le_of_ble_eq_true rfl) d_R_start_84 (fun H locs hP hD hS => ?_)
      have hP : va_P (dC, dI) xcl [(A 20, .inr (10, [.int (p5.2), .ref (A 21), .ref (A 22), .ref (A 23), .ref (A 24), .ref (A 25), .int (M.1 101), .ref (A 26), .ref (A 27), .ref (A 28), .int (M.1 102), .long (M.2.1 100), .int (M.1 103), .int (M.1 104), .int (M.1 105), .int (M.1 106), .int (M.1 107), .int (M.1 108), .long (M.2.1 101), .long (M.2.1 102), .long (M.2.1 103), .int (M.1 109), .int 1, .int 0, .int 0, .int 0, .long 0, .long 0, .long 0, .int 0, .int (M.1 115), .int (-1), .int (M.1 117), .int (M.1 118), .int (M.1 119), .int (M.1 120), .int (M.1 121), .int (M.1 122), .int (M.1 123), .int (M.1 124), .long (M.2.1 107), .int (M.1 125), .ref (A 29), .ref (A 30), .ref (A 31)]))] H := hP
      have hD : va_D AA [(A 20, .inr (10, [.int (p5.2), .ref (A 21), .ref (A 22), .ref (A 23), .ref (A 24), .ref (A 25), .int (M.1 101), .ref (A 26), .ref (A 27), .ref (A 28), .int (M.1 102), .long (M.2.1 100), .int (M.1 103), .int (M.1 104), .int (M.1 105), .int (M.1 106), .int (M.1 107), .int (M.1 108), .long (M.2.1 101), .long (M.2.1 102), .long (M.2.1 103), .int (M.1 109), .int 1, .int 0, .int 0, .int 0, .long 0, .long 0, .long 0, .int 0, .int (M.1 115), .int (-1), .int (M.1 117), .int (M.1 118), .int (M.1 119), .int (M.1 120), .int (M.1 121), .int (M.1 122), .int (M.1 123), .int (M.1 124), .long (M.2.1 107), .int (M.1 125), .ref (A 29), .ref (A 30), .ref (A 31)]))] := hD
      refine lv_aload_n hx hb d_R_start_87 rfl (lv_at hl 0 rfl) ?_
      refine lv_lconst (v := 0) hx hb d_R_start_88 (by decide) ?_
      refine va_put (D := (dC, dI)) (ci := 10) (v := .long 0) (ty := .long) (C := "CentrifugeUnitModel") (T := xF10) (N := 45) hx hb htt xin10 xT10 xTo10 xNm10 hown hK hP hD hS 0 rfl rfl 40 (by decide) (htt _ tw_819) (fun _ h9 => h9) rfl (by decide +kernel) rfl rfl (Nat.le_of_ble_eq_true rfl) d_R_start_89 (fun H locs hP hD hS => ?_)
      have hP : va_P (dC, dI) xcl [(A 20, .inr (10, [.int (p5.2), .ref (A 21), .ref (A 22), .ref (A 23), .ref (A 24), .ref (A 25), .int (M.1 101), .ref (A 26), .ref (A 27), .ref (A 28), .int (M.1 102), .long (M.2.1 100), .int (M.1 103), .int (M.1 104), .int (M.1 105), .int (M.1 106), .int (M.1 107), .int (M.1 108), .long (M.2.1 101), .long (M.2.1 102), .long (M.2.1 103), .int (M.1 109), .int 1, .int 0, .int 0, .int 0, .long 0, .long 0, .long 0, .int 0, .int (M.1 115), .int (-1), .int (M.1 117), .int (M.1 118), .int (M.1 119), .int (M.1 120), .int (M.1 121), .int (M.1 122), .int (M.1 123), .int (M.1 124), .long 0, .int (M.1 125), .ref (A 29), .ref (A 30), .ref (A 31)]))] H := hP
      have hD : va_D AA [(A 20, .inr (10, [.int (p5.2), .ref (A 21), .ref (A 22), .ref (A 23), .ref (A 24), .ref (A 25), .int (M.1 101), .ref (A 26), .ref (A 27), .ref (A 28), .int (M.1 102), .long (M.2.1 100), .int (M.1 103), .int (M.1 104), .int (M.1 105), .int (M.1 106), .int (M.1 107), .int (M.1 108), .long (M.2.1 101), .long (M.2.1 102), .long (M.2.1 103), .int (M.1 109), .int 1, .int 0, .int 0, .int 0, .long 0, .long 0, .long 0, .int 0, .int (M.1 115), .int (-1), .int (M.1 117), .int (M.1 118), .int (M.1 119), .int (M.1 120), .int (M.1 121), .int (M.1 122), .int (M.1 123), .int (M.1 124), .long 0, .int (M.1 125), .ref (A 29), .ref (A 30), .ref (A 31)]))] := hD
      have hP9 := hP.sub (ws' := [(A 20, xc20 Z A (ap_R_start M ((p5.2), 1, 0, 0, 0, 0, (-1), 0, 0, 0, 0)))]) [0] rfl
      have hD9 := hD.sub (ws' := [(A 20, xc20 Z A (ap_R_start M ((p5.2), 1, 0, 0, 0, 0, (-1), 0, 0, 0, 0)))]) [0] (by decide) rfl
      exact W.vret hx hb hr (fun t ht hW => ⟨⟨((p5.2), 1, 0, 0, 0, 0, (-1), 0, 0, 0, 0), rfl, (by rw [F_R_start, ← hj1, F_R_start_k3, ← hu3, F_R_start_k4, if_pos h6]), xE_at hP9 hK hD9 ht hW⟩, hS.F ht⟩) hS.2.2 d_R_start_92
    · have hP9 := hP.sub (ws' := [(A 20, xc20 Z A (ap_R_start M ((p5.2), (M.1 110), (M.1 111), (M.2.1 105), (M.2.1 106), (M.1 114), (M.1 116), (M.1 112), (M.1 113), (M.2.1 104), (M.2.1 107))))]) [0] rfl
      have hD9 := hD.sub (ws' := [(A 20, xc20 Z A (ap_R_start M ((p5.2), (M.1 110), (M.1 111), (M.2.1 105), (M.2.1 106), (M.1 114), (M.1 116), (M.1 112), (M.1 113), (M.2.1 104), (M.2.1 107))))]) [0] (by decide) rfl
      exact W.vret hx hb hr (fun t ht hW => ⟨⟨((p5.2), (M.1 110), (M.1 111), (M.2.1 105), (M.2.1 106), (M.1 114), (M.1 116), (M.1 112), (M.1 113), (M.2.1 104), (M.2.1 107)), rfl, (by rw [F_R_start, ← hj1, F_R_start_k3, ← hu3, F_R_start_k4, if_neg h6]), xE_at hP9 hK hD9 ht hW⟩, hS.F ht⟩) hS.2.2 d_R_start_41
abbrev bc_R_stop : ByteArray := prog_12_method_12_code
def y_R_stop : MethodName := ⟨"CentrifugeUnitModel", "stop", "()V"⟩
theorem d_R_stop_0 : decode bc_R_stop 0 = .ok (.aload_n 0, 1) := by decide +kernel
theorem d_R_stop_1 : decode bc_R_stop 1 = .ok (.aload_n 0, 1) := by decide +kernel
theorem d_R_stop_2 : decode bc_R_stop 2 = .ok (.getfield 45, 3) := by decide +kernel
theorem d_R_stop_5 : decode bc_R_stop 5 = .ok (.ifCond .eq 11, 3) := by decide +kernel
theorem d_R_stop_8 : decode bc_R_stop 8 = .ok (.aload_n 0, 1) := by decide +kernel
theorem d_R_stop_9 : decode bc_R_stop 9 = .ok (.getfield 95, 3) := by decide +kernel
theorem d_R_stop_12 : decode bc_R_stop 12 = .ok (.iconst 1, 1) := by decide +kernel
theorem d_R_stop_13 : decode bc_R_stop 13 = .ok (.if_icmp .eq 7, 3) := by decide +kernel
theorem d_R_stop_16 : decode bc_R_stop 16 = .ok (.iconst 1, 1) := by decide +kernel
theorem d_R_stop_17 : decode bc_R_stop 17 = .ok (.goto 4, 3) := by decide +kernel
theorem d_R_stop_20 : decode bc_R_stop 20 = .ok (.iconst 0, 1) := by decide +kernel
theorem d_R_stop_21 : decode bc_R_stop 21 = .ok (.iconst 0, 1) := by decide +kernel
theorem d_R_stop_22 : decode bc_R_stop 22 = .ok (.invokevirtual 98, 3) := by decide +kernel
theorem d_R_stop_25 : decode bc_R_stop 25 = .ok (.ifCond .eq 4, 3) := by decide +kernel
theorem d_R_stop_28 : decode bc_R_stop 28 = .ok (.return_, 1) := by decide +kernel
theorem d_R_stop_29 : decode bc_R_stop 29 = .ok (.aload_n 0, 1) := by decide +kernel
theorem d_R_stop_30 : decode bc_R_stop 30 = .ok (.iconst 2, 1) := by decide +kernel
theorem d_R_stop_31 : decode bc_R_stop 31 = .ok (.putfield 95, 3) := by decide +kernel
theorem d_R_stop_34 : decode bc_R_stop 34 = .ok (.aload_n 0, 1) := by decide +kernel
theorem d_R_stop_35 : decode bc_R_stop 35 = .ok (.bipush 11, 2) := by decide +kernel
theorem d_R_stop_37 : decode bc_R_stop 37 = .ok (.putfield 127, 3) := by decide +kernel
theorem d_R_stop_40 : decode bc_R_stop 40 = .ok (.return_, 1) := by decide +kernel
abbrev ap_R_stop (M : XM) (u : (Int32 × Int32 × Int32)) : XM := ((va_up (va_up (va_up M.1 100 (u.1)) 110 (u.2.1)) 111 (u.2.2)), M.2)
def F_R_stop_k3 (M : XM) (j1 : Int32) (p5 : Int32 × Int32) : (Int32 × Int32 × Int32) := (if p5.1 = 0 then ((p5.2), 2, 11) else ((p5.2), (M.1 110), (M.1 111)))
def F_R_stop_k2 (M : XM) (j1 : Int32) : (Int32 × Int32 × Int32) := (F_R_stop_k3 M j1 (F_R_throwing M j1 0))
def F_R_stop_j1 (M : XM) : Int32 := (if (M.1 109) = 0 then 1 else (if (M.1 110) = 1 then 0 else 1))
def F_R_stop (M : XM) : (Int32 × Int32 × Int32) := (F_R_stop_k2 M (F_R_stop_j1 M))
set_option maxHeartbeats 4000000 in
set_option maxRecDepth 100000 in
theorem c_R_stop (l : Launch) (dC : Nat → ClassId) (dI : Nat → Nat → Nat) (Z : Nat → ClassId) (A : Nat → Nat) (sz : Nat) (M : XM) : Met l y_R_stop (.code y_R_stop bc_R_stop 1 none :: xw) ({ frames := 1, cells := 0, slots := 0, locals := 22 }) (va_Pc [.ref (A 20)] (xB (dC, dI) xcl (xty Z) sz [(A 20, xc20 Z A M)])) (va_Qv (fun u : (Int32 × Int32 × Int32) => u = F_R_stop M) (fun u => xE (dC, dI) xcl (xty Z) (va_A [(A 20, xc20 Z A M)] sz) [(A 20, xc20 Z A (ap_R_stop M u))]) (va_A [(A 20, xc20 Z A M)] sz)) 0 0 (va_A [(A 20, xc20 Z A M)] sz) := by
  refine Met.ofW (cc := bc_R_stop) (maxL := 1) (ret := none) (by decide) rfl ?_
  intro p e s m args below meth c s₁ B hml hv
  obtain ⟨rfl, hsz, hP, hK, hD0, hq⟩ := hv
  have hx := B.exec
  have hb := B.bytes
  have hr := B.returns
  have hts := atoms_spec (ws := (.code y_R_stop bc_R_stop 1 none :: xw)) B.pre
  have htt : ∀ w ∈ xw, w.before _ s = true := fun w h => hts w (List.mem_cons_of_mem _ h)
  have hown : s.vm.findClass "CentrifugeUnitModel" = some m.cls := findClass_of_methodNamed B.named
  have hlocks := B.notSynchronized
  subst hsz
  have hD := hD0.self (sz := s.heap.size)
  generalize hAe : va_A [(A 20, xc20 Z A M)] s.heap.size = AA at hD ⊢
  have hA : ∀ q : Nat, s.heap.size ≤ q → AA q := fun q h => by rw [← hAe]; exact Or.inr h
  have hS : va_S AA s.heap s.heap [] := va_S.rf
  have hP : va_P (dC, dI) xcl [(A 20, .inr (10, [.int (M.1 100), .ref (A 21), .ref (A 22), .ref (A 23), .ref (A 24), .ref (A 25), .int (M.1 101), .ref (A 26), .ref (A 27), .ref (A 28), .int (M.1 102), .long (M.2.1 100), .int (M.1 103), .int (M.1 104), .int (M.1 105), .int (M.1 106), .int (M.1 107), .int (M.1 108), .long (M.2.1 101), .long (M.2.1 102), .long (M.2.1 103), .int (M.1 109), .int (M.1 110), .int (M.1 111), .int (M.1 112), .int (M.1 113), .long (M.2.1 104), .long (M.2.1 105), .long (M.2.1 106), .int (M.1 114), .int (M.1 115), .int (M.1 116), .int (M.1 117), .int (M.1 118), .int (M.1 119), .int (M.1 120), .int (M.1 121), .int (M.1 122), .int (M.1 123), .int (M.1 124), .long (M.2.1 107), .int (M.1 125), .ref (A 29), .ref (A 30), .ref (A 31)]))] s.heap := hP
  have hD : va_D AA [(A 20, .inr (10, [.int (M.1 100), .ref (A 21), .ref (A 22), .ref (A 23), .ref (A 24), .ref (A 25), .int (M.1 101), .ref (A 26), .ref (A 27), .ref (A 28), .int (M.1 102), .long (M.2.1 100), .int (M.1 103), .int (M.1 104), .int (M.1 105), .int (M.1 106), .int (M.1 107), .int (M.1 108), .long (M.2.1 101), .long (M.2.1 102), .long (M.2.1 103), .int (M.1 109), .int (M.1 110), .int (M.1 111), .int (M.1 112), .int (M.1 113), .long (M.2.1 104), .long (M.2.1 105), .long (M.2.1 106), .int (M.1 114), .int (M.1 115), .int (M.1 116), .int (M.1 117), .int (M.1 118), .int (M.1 119), .int (M.1 120), .int (M.1 121), .int (M.1 122), .int (M.1 123), .int (M.1 124), .long (M.2.1 107), .int (M.1 125), .ref (A 29), .ref (A 30), .ref (A 31)]))] := hD
  have hl := lv_entry ([.ref (A 20)]) (n := 1) (Nat.le_of_ble_eq_true rfl)
  rw [lg_entry_eq]
  generalize (lg_sl ([.ref (A 20)]) ++ List.replicate (1 - (lg_sl ([.ref (A 20)])).length) Slot.unset).toArray = ls at hl ⊢
  have hl : lv_has ls 1 [(0, .ref (A 20))] := hl
  refine lv_aload_n hx hb d_R_stop_0 rfl (lv_at hl 0 rfl) ?_
  refine lv_aload_n hx hb d_R_stop_1 rfl (lv_at hl 0 rfl) ?_
  refine va_get (D := (dC, dI)) (ci := 10) (v := .int (M.1 109)) (C := "CentrifugeUnitModel") (T := xF10) (N := 45) hx hb htt xin10 hown hK hP 0 rfl rfl 21 (by decide) (htt _ tw_800) (fun _ h9 => h9) rfl d_R_stop_2 ?_
  refine xj_p 1 21 (fun q9 : Int32 => [(0, .ref (A 20))]) (fun q9 : Int32 => [.int q9, .ref (A 20)]) (fun q9 : Int32 => q9 = F_R_stop_j1 M) (fun hJ2 => ?_) (fun ls j1 hl hj1 => ?_)
  · refine lv_if_eq (tgt := 16) hx hb d_R_stop_5 rfl (fun h7 => ?_) (fun h7 => ?_)
    · refine lv_iconst (v := 1) hx hb d_R_stop_16 (by decide) ?_
      refine lv_goto (tgt := 21) hx hb d_R_stop_17 rfl ?_
      exact hJ2 _ 1 (lv_sub hl [0] rfl) (by rw [F_R_stop_j1, if_pos h7])
    · refine lv_aload_n hx hb d_R_stop_8 rfl (lv_at hl 0 rfl) ?_
      refine va_get (D := (dC, dI)) (ci := 10) (v := .int (M.1 110)) (C := "CentrifugeUnitModel") (T := xF10) (N := 45) hx hb htt xin10 hown hK hP 0 rfl rfl 22 (by decide) (htt _ tw_801) (fun _ h9 => h9) rfl d_R_stop_9 ?_
      refine lv_iconst (v := 1) hx hb d_R_stop_12 (by decide) ?_
      refine lv_icmp_eq (tgt := 20) hx hb d_R_stop_13 rfl (fun h8 => ?_) (fun h8 => ?_)
      · refine lv_iconst (v := 0) hx hb d_R_stop_20 (by decide) ?_
        exact hJ2 _ 0 (lv_sub hl [0] rfl) (by rw [F_R_stop_j1, if_neg h7, if_pos h8])
      · refine lv_iconst (v := 1) hx hb d_R_stop_16 (by decide) ?_
        refine lv_goto (tgt := 21) hx hb d_R_stop_17 rfl ?_
        exact hJ2 _ 1 (lv_sub hl [0] rfl) (by rw [F_R_stop_j1, if_neg h7, if_neg h8])
  · refine lv_iconst (v := 0) hx hb d_R_stop_21 (by decide) ?_
    have hPc := hP.sub (ws' := [(A 20, xc20 Z A M)]) [0] rfl
    have hDc := hD.sub (ws' := [(A 20, xc20 Z A M)]) [0] (by decide) rfl
    refine xk_i (wc := [(A 20, xc20 Z A M)]) (wr := []) (va_runV (As := [.int j1, .int 0]) (rest := []) ⟨hx, hb, hml, hown, hts⟩ (c_R_throwing l dC dI Z A _ M j1 0) (cwV 2 hts (xw_V _ tw_934 tw_936 tp_12 tw_12 tw_937) rfl rfl rfl (by decide +kernel) ⟨Nat.le_of_ble_eq_true rfl, Nat.le_of_ble_eq_true rfl⟩) ⟨xB_blind, va_recv (q0 := 0) (ci := 10) hK hP rfl rfl, fun U hU hW => ⟨rfl, xB_at hPc hK hDc hq U hU hW⟩⟩ rfl rfl hl.1 rfl (lv_room (Nat.le_of_ble_eq_true rfl)) d_R_stop_22 ⟨Nat.le_of_ble_eq_true rfl, Nat.le_of_ble_eq_true rfl⟩) hP hD hS hA [0] [] rfl rfl (by decide) (by decide) (fun r4 u3 H locs hu3 hP hD hS => ?_)
    obtain ⟨p5, rfl, rfl⟩ : ∃ z : Int32 × Int32, r4 = z.1 ∧ u3 = z.2 := ⟨(r4, u3), rfl, rfl⟩
    replace hu3 : p5 = (F_R_throwing M j1 0) := hu3
    have hP : va_P (dC, dI) xcl [(A 20, .inr (10, [.int (p5.2), .ref (A 21), .ref (A 22), .ref (A 23), .ref (A 24), .ref (A 25), .int (M.1 101), .ref (A 26), .ref (A 27), .ref (A 28), .int (M.1 102), .long (M.2.1 100), .int (M.1 103), .int (M.1 104), .int (M.1 105), .int (M.1 106), .int (M.1 107), .int (M.1 108), .long (M.2.1 101), .long (M.2.1 102), .long (M.2.1 103), .int (M.1 109), .int (M.1 110), .int (M.1 111), .int (M.1 112), .int (M.1 113), .long (M.2.1 104), .long (M.2.1 105), .long (M.2.1 106), .int (M.1 114), .int (M.1 115), .int (M.1 116), .int (M.1 117), .int (M.1 118), .int (M.1 119), .int (M.1 120), .int (M.1 121), .int (M.1 122), .int (M.1 123), .int (M.1 124), .long (M.2.1 107), .int (M.1 125), .ref (A 29), .ref (A 30), .ref (A 31)]))] H := hP
    have hD : va_D AA [(A 20, .inr (10, [.int (p5.2), .ref (A 21), .ref (A 22), .ref (A 23), .ref (A 24), .ref (A 25), .int (M.1 101), .ref (A 26), .ref (A 27), .ref (A 28), .int (M.1 102), .long (M.2.1 100), .int (M.1 103), .int (M.1 104), .int (M.1 105), .int (M.1 106), .int (M.1 107), .int (M.1 108), .long (M.2.1 101), .long (M.2.1 102), .long (M.2.1 103), .int (M.1 109), .int (M.1 110), .int (M.1 111), .int (M.1 112), .int (M.1 113), .long (M.2.1 104), .long (M.2.1 105), .long (M.2.1 106), .int (M.1 114), .int (M.1 115), .int (M.1 116), .int (M.1 117), .int (M.1 118), .int (M.1 119), .int (M.1 120), .int (M.1 121), .int (M.1 122), .int (M.1 123), .int (M.1 124), .long (M.2.1 107), .int (M.1 125), .ref (A 29), .ref (A 30), .ref (A 31)]))] := hD
    refine lv_if_eq (tgt := 29) hx hb d_R_stop_25 rfl (fun h6 => ?_) (fun h6 => ?_)
    · refine lv_aload_n hx hb d_R_stop_29 rfl (lv_at hl 0 rfl) ?_
      refine lv_iconst (v := 2) hx hb d_R_stop_30 (by decide) ?_
      refine va_put (D := (dC, dI)) (ci := 10) (v := .int 2) (ty := .int) (C := "CentrifugeUnitModel") (T := xF10) (N := 45) hx hb htt xin10 xT10 xTo10 xNm10 hown hK hP hD hS 0 rfl rfl 22 (by decide) (htt _ tw_801) (fun _ h9 => h9) rfl (by decide +kernel) rfl rfl (Nat.le_of_ble_eq_true rfl) d_R_stop_31 (fun H locs hP hD hS => ?_)
      have hP : va_P (dC, dI) xcl [(A 20, .inr (10, [.int (p5.2), .ref (A 21), .ref (A 22), .ref (A 23), .ref (A 24), .ref (A 25), .int (M.1 101), .ref (A 26), .ref (A 27), .ref (A 28), .int (M.1 102), .long (M.2.1 100), .int (M.1 103), .int (M.1 104), .int (M.1 105), .int (M.1 106), .int (M.1 107), .int (M.1 108), .long (M.2.1 101), .long (M.2.1 102), .long (M.2.1 103), .int (M.1 109), .int 2, .int (M.1 111), .int (M.1 112), .int (M.1 113), .long (M.2.1 104), .long (M.2.1 105), .long (M.2.1 106), .int (M.1 114), .int (M.1 115), .int (M.1 116), .int (M.1 117), .int (M.1 118), .int (M.1 119), .int (M.1 120), .int (M.1 121), .int (M.1 122), .int (M.1 123), .int (M.1 124), .long (M.2.1 107), .int (M.1 125), .ref (A 29), .ref (A 30), .ref (A 31)]))] H := hP
      have hD : va_D AA [(A 20, .inr (10, [.int (p5.2), .ref (A 21), .ref (A 22), .ref (A 23), .ref (A 24), .ref (A 25), .int (M.1 101), .ref (A 26), .ref (A 27), .ref (A 28), .int (M.1 102), .long (M.2.1 100), .int (M.1 103), .int (M.1 104), .int (M.1 105), .int (M.1 106), .int (M.1 107), .int (M.1 108), .long (M.2.1 101), .long (M.2.1 102), .long (M.2.1 103), .int (M.1 109), .int 2, .int (M.1 111), .int (M.1 112), .int (M.1 113), .long (M.2.1 104), .long (M.2.1 105), .long (M.2.1 106), .int (M.1 114), .int (M.1 115), .int (M.1 116), .int (M.1 117), .int (M.1 118), .int (M.1 119), .int (M.1 120), .int (M.1 121), .int (M.1 122), .int (M.1 123), .int (M.1 124), .long (M.2.1 107), .int (M.1 125), .ref (A 29), .ref (A 30), .ref (A 31)]))] := hD
      refine lv_aload_n hx hb d_R_stop_34 rfl (lv_at hl 0 rfl) ?_
      refine lv_bipush (v := 11) hx hb d_R_stop_35 (by decide) ?_
      refine va_put (D := (dC, dI)) (ci := 10) (v := .int 11) (ty := .int) (C := "CentrifugeUnitModel") (T := xF10) (N := 45) hx hb htt xin10 xT10 xTo10 xNm10 hown hK hP hD hS 0 rfl rfl 23 (by decide) (htt _ tw_802) (fun _ h9 => h9) rfl (by decide +kernel) rfl rfl (Nat.le_of_ble_eq_true rfl) d_R_stop_37 (fun H locs hP hD hS => ?_)
      have hP : va_P (dC, dI) xcl [(A 20, .inr (10, [.int (p5.2), .ref (A 21), .ref (A 22), .ref (A 23), .ref (A 24), .ref (A 25), .int (M.1 101), .ref (A 26), .ref (A 27), .ref (A 28), .int (M.1 102), .long (M.2.1 100), .int (M.1 103), .int (M.1 104), .int (M.1 105), .int (M.1 106), .int (M.1 107), .int (M.1 108), .long (M.2.1 101), .long (M.2.1 102), .long (M.2.1 103), .int (M.1 109), .int 2, .int 11, .int (M.1 112), .int (M.1 113), .long (M.2.1 104), .long (M.2.1 105), .long (M.2.1 106), .int (M.1 114), .int (M.1 115), .int (M.1 116), .int (M.1 117), .int (M.1 118), .int (M.1 119), .int (M.1 120), .int (M.1 121), .int (M.1 122), .int (M.1 123), .int (M.1 124), .long (M.2.1 107), .int (M.1 125), .ref (A 29), .ref (A 30), .ref (A 31)]))] H := hP
      have hD : va_D AA [(A 20, .inr (10, [.int (p5.2), .ref (A 21), .ref (A 22), .ref (A 23), .ref (A 24), .ref (A 25), .int (M.1 101), .ref (A 26), .ref (A 27), .ref (A 28), .int (M.1 102), .long (M.2.1 100), .int (M.1 103), .int (M.1 104), .int (M.1 105), .int (M.1 106), .int (M.1 107), .int (M.1 108), .long (M.2.1 101), .long (M.2.1 102), .long (M.2.1 103), .int (M.1 109), .int 2, .int 11, .int (M.1 112), .int (M.1 113), .long (M.2.1 104), .long (M.2.1 105), .long (M.2.1 106), .int (M.1 114), .int (M.1 115), .int (M.1 116), .int (M.1 117), .int (M.1 118), .int (M.1 119), .int (M.1 120), .int (M.1 121), .int (M.1 122), .int (M.1 123), .int (M.1 124), .long (M.2.1 107), .int (M.1 125), .ref (A 29), .ref (A 30), .ref (A 31)]))] := hD
      have hP9 := hP.sub (ws' := [(A 20, xc20 Z A (ap_R_stop M ((p5.2), 2, 11)))]) [0] rfl
      have hD9 := hD.sub (ws' := [(A 20, xc20 Z A (ap_R_stop M ((p5.2), 2, 11)))]) [0] (by decide) rfl
      exact W.vret hx hb hr (fun t ht hW => ⟨⟨((p5.2), 2, 11), rfl, (by rw [F_R_stop, ← hj1, F_R_stop_k2, ← hu3, F_R_stop_k3, if_pos h6]), xE_at hP9 hK hD9 ht hW⟩, hS.F ht⟩) hS.2.2 d_R_stop_40
    · have hP9 := hP.sub (ws' := [(A 20, xc20 Z A (ap_R_stop M ((p5.2), (M.1 110), (M.1 111))))]) [0] rfl
      have hD9 := hD.sub (ws' := [(A 20, xc20 Z A (ap_R_stop M ((p5.2), (M.1 110), (M.1 111))))]) [0] (by decide) rfl
      exact W.vret hx hb hr (fun t ht hW => ⟨⟨((p5.2), (M.1 110), (M.1 111)), rfl, (by rw [F_R_stop, ← hj1, F_R_stop_k2, ← hu3, F_R_stop_k3, if_neg h6]), xE_at hP9 hK hD9 ht hW⟩, hS.F ht⟩) hS.2.2 d_R_stop_28
abbrev bc_R_open : ByteArray := prog_12_method_13_code
def y_R_open : MethodName := ⟨"CentrifugeUnitModel", "open", "()V"⟩
theorem d_R_open_0 : decode bc_R_open 0 = .ok (.aload_n 0, 1) := by decide +kernel
theorem d_R_open_1 : decode bc_R_open 1 = .ok (.aload_n 0, 1) := by decide +kernel
theorem d_R_open_2 : decode bc_R_open 2 = .ok (.getfield 45, 3) := by decide +kernel
theorem d_R_open_5 : decode bc_R_open 5 = .ok (.ifCond .eq 17, 3) := by decide +kernel
theorem d_R_open_8 : decode bc_R_open 8 = .ok (.aload_n 0, 1) := by decide +kernel
theorem d_R_open_9 : decode bc_R_open 9 = .ok (.getfield 95, 3) := by decide +kernel
theorem d_R_open_12 : decode bc_R_open 12 = .ok (.ifCond .ne 10, 3) := by decide +kernel
theorem d_R_open_15 : decode bc_R_open 15 = .ok (.aload_n 0, 1) := by decide +kernel
theorem d_R_open_16 : decode bc_R_open 16 = .ok (.invokevirtual 152, 3) := by decide +kernel
theorem d_R_open_19 : decode bc_R_open 19 = .ok (.ifCond .ne 7, 3) := by decide +kernel
theorem d_R_open_22 : decode bc_R_open 22 = .ok (.iconst 1, 1) := by decide +kernel
theorem d_R_open_23 : decode bc_R_open 23 = .ok (.goto 4, 3) := by decide +kernel
theorem d_R_open_26 : decode bc_R_open 26 = .ok (.iconst 0, 1) := by decide +kernel
theorem d_R_open_27 : decode bc_R_open 27 = .ok (.iconst 0, 1) := by decide +kernel
theorem d_R_open_28 : decode bc_R_open 28 = .ok (.invokevirtual 98, 3) := by decide +kernel
theorem d_R_open_31 : decode bc_R_open 31 = .ok (.ifCond .eq 4, 3) := by decide +kernel
theorem d_R_open_34 : decode bc_R_open 34 = .ok (.return_, 1) := by decide +kernel
theorem d_R_open_35 : decode bc_R_open 35 = .ok (.aload_n 0, 1) := by decide +kernel
theorem d_R_open_36 : decode bc_R_open 36 = .ok (.bipush 10, 2) := by decide +kernel
theorem d_R_open_38 : decode bc_R_open 38 = .ok (.putfield 155, 3) := by decide +kernel
theorem d_R_open_41 : decode bc_R_open 41 = .ok (.return_, 1) := by decide +kernel
abbrev ap_R_open (M : XM) (u : (Int32 × Int32)) : XM := ((va_up (va_up M.1 100 (u.1)) 106 (u.2)), M.2)
def F_R_open_k4 (M : XM) (j1 : Int32) (p5 : Int32 × Int32) : (Int32 × Int32) := (if p5.1 = 0 then ((p5.2), 10) else ((p5.2), (M.1 106)))
def F_R_open_k3 (M : XM) (j1 : Int32) : (Int32 × Int32) := (F_R_open_k4 M j1 (F_R_throwing M j1 0))
def F_R_open_k1 (M : XM) (z9 : Int32) : Int32 := (if z9 = 0 then 1 else 0)
def F_R_open_j2 (M : XM) : Int32 := (if (M.1 109) = 0 then 1 else (if (M.1 110) = 0 then (F_R_open_k1 M (F_R_atRest M)) else 1))
def F_R_open (M : XM) : (Int32 × Int32) := (F_R_open_k3 M (F_R_open_j2 M))
set_option maxHeartbeats 4000000 in
set_option maxRecDepth 100000 in
theorem c_R_open (l : Launch) (dC : Nat → ClassId) (dI : Nat → Nat → Nat) (Z : Nat → ClassId) (A : Nat → Nat) (sz : Nat) (M : XM) : Met l y_R_open (.code y_R_open bc_R_open 1 none :: xw) ({ frames := 1, cells := 0, slots := 0, locals := 22 }) (va_Pc [.ref (A 20)] (xB (dC, dI) xcl (xty Z) sz [(A 20, xc20 Z A M)])) (va_Qv (fun u : (Int32 × Int32) => u = F_R_open M) (fun u => xE (dC, dI) xcl (xty Z) (va_A [(A 20, xc20 Z A M)] sz) [(A 20, xc20 Z A (ap_R_open M u))]) (va_A [(A 20, xc20 Z A M)] sz)) 0 0 (va_A [(A 20, xc20 Z A M)] sz) := by
  refine Met.ofW (cc := bc_R_open) (maxL := 1) (ret := none) (by decide) rfl ?_
  intro p e s m args below meth c s₁ B hml hv
  obtain ⟨rfl, hsz, hP, hK, hD0, hq⟩ := hv
  have hx := B.exec
  have hb := B.bytes
  have hr := B.returns
  have hts := atoms_spec (ws := (.code y_R_open bc_R_open 1 none :: xw)) B.pre
  have htt : ∀ w ∈ xw, w.before _ s = true := fun w h => hts w (List.mem_cons_of_mem _ h)
  have hown : s.vm.findClass "CentrifugeUnitModel" = some m.cls := findClass_of_methodNamed B.named
  have hlocks := B.notSynchronized
  subst hsz
  have hD := hD0.self (sz := s.heap.size)
  generalize hAe : va_A [(A 20, xc20 Z A M)] s.heap.size = AA at hD ⊢
  have hA : ∀ q : Nat, s.heap.size ≤ q → AA q := fun q h => by rw [← hAe]; exact Or.inr h
  have hS : va_S AA s.heap s.heap [] := va_S.rf
  have hP : va_P (dC, dI) xcl [(A 20, .inr (10, [.int (M.1 100), .ref (A 21), .ref (A 22), .ref (A 23), .ref (A 24), .ref (A 25), .int (M.1 101), .ref (A 26), .ref (A 27), .ref (A 28), .int (M.1 102), .long (M.2.1 100), .int (M.1 103), .int (M.1 104), .int (M.1 105), .int (M.1 106), .int (M.1 107), .int (M.1 108), .long (M.2.1 101), .long (M.2.1 102), .long (M.2.1 103), .int (M.1 109), .int (M.1 110), .int (M.1 111), .int (M.1 112), .int (M.1 113), .long (M.2.1 104), .long (M.2.1 105), .long (M.2.1 106), .int (M.1 114), .int (M.1 115), .int (M.1 116), .int (M.1 117), .int (M.1 118), .int (M.1 119), .int (M.1 120), .int (M.1 121), .int (M.1 122), .int (M.1 123), .int (M.1 124), .long (M.2.1 107), .int (M.1 125), .ref (A 29), .ref (A 30), .ref (A 31)]))] s.heap := hP
  have hD : va_D AA [(A 20, .inr (10, [.int (M.1 100), .ref (A 21), .ref (A 22), .ref (A 23), .ref (A 24), .ref (A 25), .int (M.1 101), .ref (A 26), .ref (A 27), .ref (A 28), .int (M.1 102), .long (M.2.1 100), .int (M.1 103), .int (M.1 104), .int (M.1 105), .int (M.1 106), .int (M.1 107), .int (M.1 108), .long (M.2.1 101), .long (M.2.1 102), .long (M.2.1 103), .int (M.1 109), .int (M.1 110), .int (M.1 111), .int (M.1 112), .int (M.1 113), .long (M.2.1 104), .long (M.2.1 105), .long (M.2.1 106), .int (M.1 114), .int (M.1 115), .int (M.1 116), .int (M.1 117), .int (M.1 118), .int (M.1 119), .int (M.1 120), .int (M.1 121), .int (M.1 122), .int (M.1 123), .int (M.1 124), .long (M.2.1 107), .int (M.1 125), .ref (A 29), .ref (A 30), .ref (A 31)]))] := hD
  have hl := lv_entry ([.ref (A 20)]) (n := 1) (Nat.le_of_ble_eq_true rfl)
  rw [lg_entry_eq]
  generalize (lg_sl ([.ref (A 20)]) ++ List.replicate (1 - (lg_sl ([.ref (A 20)])).length) Slot.unset).toArray = ls at hl ⊢
  have hl : lv_has ls 1 [(0, .ref (A 20))] := hl
  refine lv_aload_n hx hb d_R_open_0 rfl (lv_at hl 0 rfl) ?_
  refine lv_aload_n hx hb d_R_open_1 rfl (lv_at hl 0 rfl) ?_
  refine va_get (D := (dC, dI)) (ci := 10) (v := .int (M.1 109)) (C := "CentrifugeUnitModel") (T := xF10) (N := 45) hx hb htt xin10 hown hK hP 0 rfl rfl 21 (by decide) (htt _ tw_800) (fun _ h9 => h9) rfl d_R_open_2 ?_
  refine xj_p 1 27 (fun q9 : Int32 => [(0, .ref (A 20))]) (fun q9 : Int32 => [.int q9, .ref (A 20)]) (fun q9 : Int32 => q9 = F_R_open_j2 M) (fun hJ2 => ?_) (fun ls j1 hl hj1 => ?_)
  · refine lv_if_eq (tgt := 22) hx hb d_R_open_5 rfl (fun h7 => ?_) (fun h7 => ?_)
    · refine lv_iconst (v := 1) hx hb d_R_open_22 (by decide) ?_
      refine lv_goto (tgt := 27) hx hb d_R_open_23 rfl ?_
      exact hJ2 _ 1 (lv_sub hl [0] rfl) (by rw [F_R_open_j2, if_pos h7])
    · refine lv_aload_n hx hb d_R_open_8 rfl (lv_at hl 0 rfl) ?_
      refine va_get (D := (dC, dI)) (ci := 10) (v := .int (M.1 110)) (C := "CentrifugeUnitModel") (T := xF10) (N := 45) hx hb htt xin10 hown hK hP 0 rfl rfl 22 (by decide) (htt _ tw_801) (fun _ h9 => h9) rfl d_R_open_9 ?_
      refine lv_if_ne (tgt := 22) hx hb d_R_open_12 rfl (fun h8 => ?_) (fun h8 => ?_)
      · refine lv_iconst (v := 1) hx hb d_R_open_22 (by decide) ?_
        refine lv_goto (tgt := 27) hx hb d_R_open_23 rfl ?_
        exact hJ2 _ 1 (lv_sub hl [0] rfl) (by rw [F_R_open_j2, if_neg h7, if_neg h8])
      · refine lv_aload_n hx hb d_R_open_15 rfl (lv_at hl 0 rfl) ?_
        have hPc := hP.sub (ws' := [(A 20, xc20 Z A M)]) [0] rfl
        have hDc := hD.sub (ws' := [(A 20, xc20 Z A M)]) [0] (by decide) rfl
        refine xk_p (va_runV (As := []) (rest := [.ref (A 20)]) ⟨hx, hb, hml, hown, hts⟩ (c_R_atRest l dC dI Z A _ M) (cwV 0 hts (xw_V _ tw_972 tw_974 tp_14 tw_12 tw_975) rfl rfl rfl (by decide +kernel) ⟨Nat.le_of_ble_eq_true rfl, Nat.le_of_ble_eq_true rfl⟩) ⟨xB_blind, va_recv (q0 := 0) (ci := 10) hK hP rfl rfl, fun U hU hW => ⟨rfl, xB_at hPc hK hDc hq U hU hW⟩⟩ rfl rfl hl.1 rfl (lv_room (Nat.le_of_ble_eq_true rfl)) d_R_open_16 ⟨Nat.le_of_ble_eq_true rfl, Nat.le_of_ble_eq_true rfl⟩) ?_
        refine lv_topi (fun z9 hz9 => ?_)
        refine lv_if_ne (tgt := 26) hx hb d_R_open_19 rfl (fun h10 => ?_) (fun h10 => ?_)
        · refine lv_iconst (v := 0) hx hb d_R_open_26 (by decide) ?_
          exact hJ2 _ 0 (lv_sub hl [0] rfl) (by rw [F_R_open_j2, if_neg h7, if_pos h8, ← hz9, F_R_open_k1, if_neg h10])
        · refine lv_iconst (v := 1) hx hb d_R_open_22 (by decide) ?_
          refine lv_goto (tgt := 27) hx hb d_R_open_23 rfl ?_
          exact hJ2 _ 1 (lv_sub hl [0] rfl) (by rw [F_R_open_j2, if_neg h7, if_pos h8, ← hz9, F_R_open_k1, if_pos h10])
  · refine lv_iconst (v := 0) hx hb d_R_open_27 (by decide) ?_
    have hPc := hP.sub (ws' := [(A 20, xc20 Z A M)]) [0] rfl
    have hDc := hD.sub (ws' := [(A 20, xc20 Z A M)]) [0] (by decide) rfl
    refine xk_i (wc := [(A 20, xc20 Z A M)]) (wr := []) (va_runV (As := [.int j1, .int 0]) (rest := []) ⟨hx, hb, hml, hown, hts⟩ (c_R_throwing l dC dI Z A _ M j1 0) (cwV 2 hts (xw_V _ tw_934 tw_936 tp_12 tw_12 tw_937) rfl rfl rfl (by decide +kernel) ⟨Nat.le_of_ble_eq_true rfl, Nat.le_of_ble_eq_true rfl⟩) ⟨xB_blind, va_recv (q0 := 0) (ci := 10) hK hP rfl rfl, fun U hU hW => ⟨rfl, xB_at hPc hK hDc hq U hU hW⟩⟩ rfl rfl hl.1 rfl (lv_room (Nat.le_of_ble_eq_true rfl)) d_R_open_28 ⟨Nat.le_of_ble_eq_true rfl, Nat.le_of_ble_eq_true rfl⟩) hP hD hS hA [0] [] rfl rfl (by decide) (by decide) (fun r4 u3 H locs hu3 hP hD hS => ?_)
    obtain ⟨p5, rfl, rfl⟩ : ∃ z : Int32 × Int32, r4 = z.1 ∧ u3 = z.2 := ⟨(r4, u3), rfl, rfl⟩
    replace hu3 : p5 = (F_R_throwing M j1 0) := hu3
    have hP : va_P (dC, dI) xcl [(A 20, .inr (10, [.int (p5.2), .ref (A 21), .ref (A 22), .ref (A 23), .ref (A 24), .ref (A 25), .int (M.1 101), .ref (A 26), .ref (A 27), .ref (A 28), .int (M.1 102), .long (M.2.1 100), .int (M.1 103), .int (M.1 104), .int (M.1 105), .int (M.1 106), .int (M.1 107), .int (M.1 108), .long (M.2.1 101), .long (M.2.1 102), .long (M.2.1 103), .int (M.1 109), .int (M.1 110), .int (M.1 111), .int (M.1 112), .int (M.1 113), .long (M.2.1 104), .long (M.2.1 105), .long (M.2.1 106), .int (M.1 114), .int (M.1 115), .int (M.1 116), .int (M.1 117), .int (M.1 118), .int (M.1 119), .int (M.1 120), .int (M.1 121), .int (M.1 122), .int (M.1 123), .int (M.1 124), .long (M.2.1 107), .int (M.1 125), .ref (A 29), .ref (A 30), .ref (A 31)]))] H := hP
    have hD : va_D AA [(A 20, .inr (10, [.int (p5.2), .ref (A 21), .ref (A 22), .ref (A 23), .ref (A 24), .ref (A 25), .int (M.1 101), .ref (A 26), .ref (A 27), .ref (A 28), .int (M.1 102), .long (M.2.1 100), .int (M.1 103), .int (M.1 104), .int (M.1 105), .int (M.1 106), .int (M.1 107), .int (M.1 108), .long (M.2.1 101), .long (M.2.1 102), .long (M.2.1 103), .int (M.1 109), .int (M.1 110), .int (M.1 111), .int (M.1 112), .int (M.1 113), .long (M.2.1 104), .long (M.2.1 105), .long (M.2.1 106), .int (M.1 114), .int (M.1 115), .int (M.1 116), .int (M.1 117), .int (M.1 118), .int (M.1 119), .int (M.1 120), .int (M.1 121), .int (M.1 122), .int (M.1 123), .int (M.1 124), .long (M.2.1 107), .int (M.1 125), .ref (A 29), .ref (A 30), .ref (A 31)]))] := hD
    refine lv_if_eq (tgt := 35) hx hb d_R_open_31 rfl (fun h6 => ?_) (fun h6 => ?_)
    · refine lv_aload_n hx hb d_R_open_35 rfl (lv_at hl 0 rfl) ?_
      refine lv_bipush (v := 10) hx hb d_R_open_36 (by decide) ?_
      refine va_put (D := (dC, dI)) (ci := 10) (v := .int 10) (ty := .int) (C := "CentrifugeUnitModel") (T := xF10) (N := 45) hx hb htt xin10 xT10 xTo10 xNm10 hown hK hP hD hS 0 rfl rfl 15 (by decide) (htt _ tw_794) (fun _ h9 => h9) rfl (by decide +kernel) rfl rfl (Nat.le_of_ble_eq_true rfl) d_R_open_38 (fun H locs hP hD hS => ?_)
      have hP : va_P (dC, dI) xcl [(A 20, .inr (10, [.int (p5.2), .ref (A 21), .ref (A 22), .ref (A 23), .ref (A 24), .ref (A 25), .int (M.1 101), .ref (A 26), .ref (A 27), .ref (A 28), .int (M.1 102), .long (M.2.1 100), .int (M.1 103), .int (M.1 104), .int (M.1 105), .int 10, .int (M.1 107), .int (M.1 108), .long (M.2.1 101), .long (M.2.1 102), .long (M.2.1 103), .int (M.1 109), .int (M.1 110), .int (M.1 111), .int (M.1 112), .int (M.1 113), .long (M.2.1 104), .long (M.2.1 105), .long (M.2.1 106), .int (M.1 114), .int (M.1 115), .int (M.1 116), .int (M.1 117), .int (M.1 118), .int (M.1 119), .int (M.1 120), .int (M.1 121), .int (M.1 122), .int (M.1 123), .int (M.1 124), .long (M.2.1 107), .int (M.1 125), .ref (A 29), .ref (A 30), .ref (A 31)]))] H := hP
      have hD : va_D AA [(A 20, .inr (10, [.int (p5.2), .ref (A 21), .ref (A 22), .ref (A 23), .ref (A 24), .ref (A 25), .int (M.1 101), .ref (A 26), .ref (A 27), .ref (A 28), .int (M.1 102), .long (M.2.1 100), .int (M.1 103), .int (M.1 104), .int (M.1 105), .int 10, .int (M.1 107), .int (M.1 108), .long (M.2.1 101), .long (M.2.1 102), .long (M.2.1 103), .int (M.1 109), .int (M.1 110), .int (M.1 111), .int (M.1 112), .int (M.1 113), .long (M.2.1 104), .long (M.2.1 105), .long (M.2.1 106), .int (M.1 114), .int (M.1 115), .int (M.1 116), .int (M.1 117), .int (M.1 118), .int (M.1 119), .int (M.1 120), .int (M.1 121), .int (M.1 122), .int (M.1 123), .int (M.1 124), .long (M.2.1 107), .int (M.1 125), .ref (A 29), .ref (A 30), .ref (A 31)]))] := hD
      have hP9 := hP.sub (ws' := [(A 20, xc20 Z A (ap_R_open M ((p5.2), 10)))]) [0] rfl
      have hD9 := hD.sub (ws' := [(A 20, xc20 Z A (ap_R_open M ((p5.2), 10)))]) [0] (by decide) rfl
      exact W.vret hx hb hr (fun t ht hW => ⟨⟨((p5.2), 10), rfl, (by rw [F_R_open, ← hj1, F_R_open_k3, ← hu3, F_R_open_k4, if_pos h6]), xE_at hP9 hK hD9 ht hW⟩, hS.F ht⟩) hS.2.2 d_R_open_41
    · have hP9 := hP.sub (ws' := [(A 20, xc20 Z A (ap_R_open M ((p5.2), (M.1 106))))]) [0] rfl
      have hD9 := hD.sub (ws' := [(A 20, xc20 Z A (ap_R_open M ((p5.2), (M.1 106))))]) [0] (by decide) rfl
      exact W.vret hx hb hr (fun t ht hW => ⟨⟨((p5.2), (M.1 106)), rfl, (by rw [F_R_open, ← hj1, F_R_open_k3, ← hu3, F_R_open_k4, if_neg h6]), xE_at hP9 hK hD9 ht hW⟩, hS.F ht⟩) hS.2.2 d_R_open_34
abbrev bc_R_bolt : ByteArray := prog_12_method_14_code
def y_R_bolt : MethodName := ⟨"CentrifugeUnitModel", "bolt", "(ZZ)V"⟩
theorem d_R_bolt_0 : decode bc_R_bolt 0 = .ok (.aload_n 0, 1) := by decide +kernel
theorem d_R_bolt_1 : decode bc_R_bolt 1 = .ok (.iconst 0, 1) := by decide +kernel
theorem d_R_bolt_2 : decode bc_R_bolt 2 = .ok (.putfield 68, 3) := by decide +kernel
theorem d_R_bolt_5 : decode bc_R_bolt 5 = .ok (.aload_n 0, 1) := by decide +kernel
theorem d_R_bolt_6 : decode bc_R_bolt 6 = .ok (.iload_n 1, 1) := by decide +kernel
theorem d_R_bolt_7 : decode bc_R_bolt 7 = .ok (.putfield 52, 3) := by decide +kernel
theorem d_R_bolt_10 : decode bc_R_bolt 10 = .ok (.aload_n 0, 1) := by decide +kernel
theorem d_R_bolt_11 : decode bc_R_bolt 11 = .ok (.iload_n 2, 1) := by decide +kernel
theorem d_R_bolt_12 : decode bc_R_bolt 12 = .ok (.putfield 71, 3) := by decide +kernel
theorem d_R_bolt_15 : decode bc_R_bolt 15 = .ok (.return_, 1) := by decide +kernel
abbrev ap_R_bolt (M : XM) (u : (Int32 × Int32 × Int32)) : XM := ((va_up (va_up (va_up M.1 100 (u.1)) 121 (u.2.1)) 122 (u.2.2)), M.2)
def F_R_bolt (M : XM) (a1 : Int32) (a2 : Int32) : (Int32 × Int32 × Int32) := (0, a1, a2)
set_option maxHeartbeats 4000000 in
set_option maxRecDepth 100000 in
theorem c_R_bolt (l : Launch) (dC : Nat → ClassId) (dI : Nat → Nat → Nat) (Z : Nat → ClassId) (A : Nat → Nat) (sz : Nat) (M : XM) (a1 : Int32) (a2 : Int32) (hb1 : a1 = 0 ∨ a1 = 1) (hb2 : a2 = 0 ∨ a2 = 1) : Met l y_R_bolt (.code y_R_bolt bc_R_bolt 3 none :: xw) ({ frames := 0, cells := 0, slots := 0, locals := 0 }) (va_Pc [.ref (A 20), .int a1, .int a2] (xB (dC, dI) xcl (xty Z) sz [(A 20, xc20 Z A M)])) (va_Qv (fun u : (Int32 × Int32 × Int32) => u = F_R_bolt M a1 a2) (fun u => xE (dC, dI) xcl (xty Z) (va_A [(A 20, xc20 Z A M)] sz) [(A 20, xc20 Z A (ap_R_bolt M u))]) (va_A [(A 20, xc20 Z A M)] sz)) 0 0 (va_A [(A 20, xc20 Z A M)] sz) := by
  refine Met.ofW (cc := bc_R_bolt) (maxL := 3) (ret := none) (by decide) rfl ?_
  intro p e s m args below meth c s₁ B hml hv
  obtain ⟨rfl, hsz, hP, hK, hD0, hq⟩ := hv
  have hx := B.exec
  have hb := B.bytes
  have hr := B.returns
  have hts := atoms_spec (ws := (.code y_R_bolt bc_R_bolt 3 none :: xw)) B.pre
  have htt : ∀ w ∈ xw, w.before _ s = true := fun w h => hts w (List.mem_cons_of_mem _ h)
  have hown : s.vm.findClass "CentrifugeUnitModel" = some m.cls := findClass_of_methodNamed B.named
  have hlocks := B.notSynchronized
  subst hsz
  have hD := hD0.self (sz := s.heap.size)
  generalize hAe : va_A [(A 20, xc20 Z A M)] s.heap.size = AA at hD ⊢
  have hA : ∀ q : Nat, s.heap.size ≤ q → AA q := fun q h => by rw [← hAe]; exact Or.inr h
  have hS : va_S AA s.heap s.heap [] := va_S.rf
  have hP : va_P (dC, dI) xcl [(A 20, .inr (10, [.int (M.1 100), .ref (A 21), .ref (A 22), .ref (A 23), .ref (A 24), .ref (A 25), .int (M.1 101), .ref (A 26), .ref (A 27), .ref (A 28), .int (M.1 102), .long (M.2.1 100), .int (M.1 103), .int (M.1 104), .int (M.1 105), .int (M.1 106), .int (M.1 107), .int (M.1 108), .long (M.2.1 101), .long (M.2.1 102), .long (M.2.1 103), .int (M.1 109), .int (M.1 110), .int (M.1 111), .int (M.1 112), .int (M.1 113), .long (M.2.1 104), .long (M.2.1 105), .long (M.2.1 106), .int (M.1 114), .int (M.1 115), .int (M.1 116), .int (M.1 117), .int (M.1 118), .int (M.1 119), .int (M.1 120), .int (M.1 121), .int (M.1 122), .int (M.1 123), .int (M.1 124), .long (M.2.1 107), .int (M.1 125), .ref (A 29), .ref (A 30), .ref (A 31)]))] s.heap := hP
  have hD : va_D AA [(A 20, .inr (10, [.int (M.1 100), .ref (A 21), .ref (A 22), .ref (A 23), .ref (A 24), .ref (A 25), .int (M.1 101), .ref (A 26), .ref (A 27), .ref (A 28), .int (M.1 102), .long (M.2.1 100), .int (M.1 103), .int (M.1 104), .int (M.1 105), .int (M.1 106), .int (M.1 107), .int (M.1 108), .long (M.2.1 101), .long (M.2.1 102), .long (M.2.1 103), .int (M.1 109), .int (M.1 110), .int (M.1 111), .int (M.1 112), .int (M.1 113), .long (M.2.1 104), .long (M.2.1 105), .long (M.2.1 106), .int (M.1 114), .int (M.1 115), .int (M.1 116), .int (M.1 117), .int (M.1 118), .int (M.1 119), .int (M.1 120), .int (M.1 121), .int (M.1 122), .int (M.1 123), .int (M.1 124), .long (M.2.1 107), .int (M.1 125), .ref (A 29), .ref (A 30), .ref (A 31)]))] := hD
  have hl := lv_entry ([.ref (A 20), .int a1, .int a2]) (n := 3) (Nat.le_of_ble_eq_true rfl)
  rw [lg_entry_eq]
  generalize (lg_sl ([.ref (A 20), .int a1, .int a2]) ++ List.replicate (3 - (lg_sl ([.ref (A 20), .int a1, .int a2])).length) Slot.unset).toArray = ls at hl ⊢
  have hl : lv_has ls 3 [(0, .ref (A 20)), (1, .int a1), (2, .int a2)] := hl
  refine lv_aload_n hx hb d_R_bolt_0 rfl (lv_at hl 0 rfl) ?_
  refine lv_iconst (v := 0) hx hb d_R_bolt_1 (by decide) ?_
  refine va_put (D := (dC, dI)) (ci := 10) (v := .int 0) (ty := .int) (C := "CentrifugeUnitModel") (T := xF10) (N := 45) hx hb htt xin10 xT10 xTo10 xNm10 hown hK hP hD hS 0 rfl rfl 0 (by decide) (htt _ tw_779) (fun _ h9 => h9) rfl (by decide +kernel) rfl rfl (Nat.le_of_ble_eq_true rfl) d_R_bolt_2 (fun H locs hP hD hS => ?_)
  have hP : va_P (dC, dI) xcl [(A 20, .inr (10, [.int 0, .ref (A 21), .ref (A 22), .ref (A 23), .ref (A 24), .ref (A 25), .int (M.1 101), .ref (A 26), .ref (A 27), .ref (A 28), .int (M.1 102), .long (M.2.1 100), .int (M.1 103), .int (M.1 104), .int (M.1 105), .int (M.1 106), .int (M.1 107), .int (M.1 108), .long (M.2.1 101), .long (M.2.1 102), .long (M.2.1 103), .int (M.1 109), .int (M.1 110), .int (M.1 111), .int (M.1 112), .int (M.1 113), .long (M.2.1 104), .long (M.2.1 105), .long (M.2.1 106), .int (M.1 114), .int (M.1 115), .int (M.1 116), .int (M.1 117), .int (M.1 118), .int (M.1 119), .int (M.1 120), .int (M.1 121), .int (M.1 122), .int (M.1 123), .int (M.1 124), .long (M.2.1 107), .int (M.1 125), .ref (A 29), .ref (A 30), .ref (A 31)]))] H := hP
  have hD : va_D AA [(A 20, .inr (10, [.int 0, .ref (A 21), .ref (A 22), .ref (A 23), .ref (A 24), .ref (A 25), .int (M.1 101), .ref (A 26), .ref (A 27), .ref (A 28), .int (M.1 102), .long (M.2.1 100), .int (M.1 103), .int (M.1 104), .int (M.1 105), .int (M.1 106), .int (M.1 107), .int (M.1 108), .long (M.2.1 101), .long (M.2.1 102), .long (M.2.1 103), .int (M.1 109), .int (M.1 110), .int (M.1 111), .int (M.1 112), .int (M.1 113), .long (M.2.1 104), .long (M.2.1 105), .long (M.2.1 106), .int (M.1 114), .int (M.1 115), .int (M.1 116), .int (M.1 117), .int (M.1 118), .int (M.1 119), .int (M.1 120), .int (M.1 121), .int (M.1 122), .int (M.1 123), .int (M.1 124), .long (M.2.1 107), .int (M.1 125), .ref (A 29), .ref (A 30), .ref (A 31)]))] := hD
  refine lv_aload_n hx hb d_R_bolt_5 rfl (lv_at hl 0 rfl) ?_
  refine lv_iload_n hx hb d_R_bolt_6 rfl (lv_at hl 1 rfl) ?_
  refine va_put (D := (dC, dI)) (ci := 10) (v := .int a1) (ty := .boolean) (C := "CentrifugeUnitModel") (T := xF10) (N := 45) hx hb htt xin10 xT10 xTo10 xNm10 hown hK hP hD hS 0 rfl rfl 36 (by decide) (htt _ tw_815) (fun _ h9 => h9) rfl (by decide +kernel) (xz_nar hb1) (xz_fit hb1) (Nat.le_of_ble_eq_true rfl) d_R_bolt_7 (fun H locs hP hD hS => ?_)
  have hP : va_P (dC, dI) xcl [(A 20, .inr (10, [.int 0, .ref (A 21), .ref (A 22), .ref (A 23), .ref (A 24), .ref (A 25), .int (M.1 101), .ref (A 26), .ref (A 27), .ref (A 28), .int (M.1 102), .long (M.2.1 100), .int (M.1 103), .int (M.1 104), .int (M.1 105), .int (M.1 106), .int (M.1 107), .int (M.1 108), .long (M.2.1 101), .long (M.2.1 102), .long (M.2.1 103), .int (M.1 109), .int (M.1 110), .int (M.1 111), .int (M.1 112), .int (M.1 113), .long (M.2.1 104), .long (M.2.1 105), .long (M.2.1 106), .int (M.1 114), .int (M.1 115), .int (M.1 116), .int (M.1 117), .int (M.1 118), .int (M.1 119), .int (M.1 120), .int a1, .int (M.1 122), .int (M.1 123), .int (M.1 124), .long (M.2.1 107), .int (M.1 125), .ref (A 29), .ref (A 30), .ref (A 31)]))] H := hP
  have hD : va_D AA [(A 20, .inr (10, [.int 0, .ref (A 21), .ref (A 22), .ref (A 23), .ref (A 24), .ref (A 25), .int (M.1 101), .ref (A 26), .ref (A 27), .ref (A 28), .int (M.1 102), .long (M.2.1 100), .int (M.1 103), .int (M.1 104), .int (M.1 105), .int (M.1 106), .int (M.1 107), .int (M.1 108), .long (M.2.1 101), .long (M.2.1 102), .long (M.2.1 103), .int (M.1 109), .int (M.1 110), .int (M.1 111), .int (M.1 112), .int (M.1 113), .long (M.2.1 104), .long (M.2.1 105), .long (M.2.1 106), .int (M.1 114), .int (M.1 115), .int (M.1 116), .int (M.1 117), .int (M.1 118), .int (M.1 119), .int (M.1 120), .int a1, .int (M.1 122), .int (M.1 123), .int (M.1 124), .long (M.2.1 107), .int (M.1 125), .ref (A 29), .ref (A 30), .ref (A 31)]))] := hD
  refine lv_aload_n hx hb d_R_bolt_10 rfl (lv_at hl 0 rfl) ?_
  refine lv_iload_n hx hb d_R_bolt_11 rfl (lv_at hl 2 rfl) ?_
  refine va_put (D := (dC, dI)) (ci := 10) (v := .int a2) (ty := .boolean) (C := "CentrifugeUnitModel") (T := xF10) (N := 45) hx hb htt xin10 xT10 xTo10 xNm10 hown hK hP hD hS 0 rfl rfl 37 (by decide) (htt _ tw_816) (fun _ h9 => h9) rfl (by decide +kernel) (xz_nar hb2) (xz_fit hb2) (Nat.le_of_ble_eq_true rfl) d_R_bolt_12 (fun H locs hP hD hS => ?_)
  have hP : va_P (dC, dI) xcl [(A 20, .inr (10, [.int 0, .ref (A 21), .ref (A 22), .ref (A 23), .ref (A 24), .ref (A 25), .int (M.1 101), .ref (A 26), .ref (A 27), .ref (A 28), .int (M.1 102), .long (M.2.1 100), .int (M.1 103), .int (M.1 104), .int (M.1 105), .int (M.1 106), .int (M.1 107), .int (M.1 108), .long (M.2.1 101), .long (M.2.1 102), .long (M.2.1 103), .int (M.1 109), .int (M.1 110), .int (M.1 111), .int (M.1 112), .int (M.1 113), .long (M.2.1 104), .long (M.2.1 105), .long (M.2.1 106), .int (M.1 114), .int (M.1 115), .int (M.1 116), .int (M.1 117), .int (M.1 118), .int (M.1 119), .int (M.1 120), .int a1, .int a2, .int (M.1 123), .int (M.1 124), .long (M.2.1 107), .int (M.1 125), .ref (A 29), .ref (A 30), .ref (A 31)]))] H := hP
  have hD : va_D AA [(A 20, .inr (10, [.int 0, .ref (A 21), .ref (A 22), .ref (A 23), .ref (A 24), .ref (A 25), .int (M.1 101), .ref (A 26), .ref (A 27), .ref (A 28), .int (M.1 102), .long (M.2.1 100), .int (M.1 103), .int (M.1 104), .int (M.1 105), .int (M.1 106), .int (M.1 107), .int (M.1 108), .long (M.2.1 101), .long (M.2.1 102), .long (M.2.1 103), .int (M.1 109), .int (M.1 110), .int (M.1 111), .int (M.1 112), .int (M.1 113), .long (M.2.1 104), .long (M.2.1 105), .long (M.2.1 106), .int (M.1 114), .int (M.1 115), .int (M.1 116), .int (M.1 117), .int (M.1 118), .int (M.1 119), .int (M.1 120), .int a1, .int a2, .int (M.1 123), .int (M.1 124), .long (M.2.1 107), .int (M.1 125), .ref (A 29), .ref (A 30), .ref (A 31)]))] := hD
  have hP9 := hP.sub (ws' := [(A 20, xc20 Z A (ap_R_bolt M (0, a1, a2)))]) [0] rfl
  have hD9 := hD.sub (ws' := [(A 20, xc20 Z A (ap_R_bolt M (0, a1, a2)))]) [0] (by decide) rfl
  exact W.vret hx hb hr (fun t ht hW => ⟨⟨(0, a1, a2), rfl, (by rw [F_R_bolt]), xE_at hP9 hK hD9 ht hW⟩, hS.F ht⟩) hS.2.2 d_R_bolt_15
abbrev bc_R_shake : ByteArray := prog_12_method_15_code
def y_R_shake : MethodName := ⟨"CentrifugeUnitModel", "shake", "(I)V"⟩
theorem d_R_shake_0 : decode bc_R_shake 0 = .ok (.aload_n 0, 1) := by decide +kernel
theorem d_R_shake_1 : decode bc_R_shake 1 = .ok (.iload_n 1, 1) := by decide +kernel
theorem d_R_shake_2 : decode bc_R_shake 2 = .ok (.i2l, 1) := by decide +kernel
theorem d_R_shake_3 : decode bc_R_shake 3 = .ok (.lconst 0, 1) := by decide +kernel
theorem d_R_shake_4 : decode bc_R_shake 4 = .ok (.ldc2_w 106, 3) := by decide +kernel
theorem d_R_shake_7 : decode bc_R_shake 7 = .ok (.invokestatic 79, 3) := by decide +kernel
theorem d_R_shake_10 : decode bc_R_shake 10 = .ok (.ifCond .ne 7, 3) := by decide +kernel
theorem d_R_shake_13 : decode bc_R_shake 13 = .ok (.iconst 1, 1) := by decide +kernel
theorem d_R_shake_14 : decode bc_R_shake 14 = .ok (.goto 4, 3) := by decide +kernel
theorem d_R_shake_17 : decode bc_R_shake 17 = .ok (.iconst 0, 1) := by decide +kernel
theorem d_R_shake_18 : decode bc_R_shake 18 = .ok (.iconst 0, 1) := by decide +kernel
theorem d_R_shake_19 : decode bc_R_shake 19 = .ok (.invokevirtual 98, 3) := by decide +kernel
theorem d_R_shake_22 : decode bc_R_shake 22 = .ok (.ifCond .eq 4, 3) := by decide +kernel
theorem d_R_shake_25 : decode bc_R_shake 25 = .ok (.return_, 1) := by decide +kernel
theorem d_R_shake_26 : decode bc_R_shake 26 = .ok (.aload_n 0, 1) := by decide +kernel
theorem d_R_shake_27 : decode bc_R_shake 27 = .ok (.iload_n 1, 1) := by decide +kernel
theorem d_R_shake_28 : decode bc_R_shake 28 = .ok (.putfield 158, 3) := by decide +kernel
theorem d_R_shake_31 : decode bc_R_shake 31 = .ok (.return_, 1) := by decide +kernel
abbrev ap_R_shake (M : XM) (u : (Int32 × Int32)) : XM := ((va_up (va_up M.1 100 (u.1)) 123 (u.2)), M.2)
def F_R_shake_k4 (M : XM) (a1 : Int32) (z1 : Int32) (j2 : Int32) (p6 : Int32 × Int32) : (Int32 × Int32) := (if p6.1 = 0 then ((p6.2), a1) else ((p6.2), (M.1 123)))
def F_R_shake_k3 (M : XM) (a1 : Int32) (z1 : Int32) (j2 : Int32) : (Int32 × Int32) := (F_R_shake_k4 M a1 z1 j2 (F_R_throwing M j2 0))
def F_R_shake_j2 (M : XM) (a1 : Int32) (z1 : Int32) : Int32 := (if z1 = 0 then 1 else 0)
def F_R_shake_k1 (M : XM) (a1 : Int32) (z1 : Int32) : (Int32 × Int32) := (F_R_shake_k3 M a1 z1 (F_R_shake_j2 M a1 z1))
def F_R_shake (M : XM) (a1 : Int32) : (Int32 × Int32) := (F_R_shake_k1 M a1 (F_R_in M (a1).toInt64 0 100000))
set_option maxHeartbeats 4000000 in
set_option maxRecDepth 100000 in
theorem c_R_shake (l : Launch) (dC : Nat → ClassId) (dI : Nat → Nat → Nat) (Z : Nat → ClassId) (A : Nat → Nat) (sz : Nat) (M : XM) (a1 : Int32) : Met l y_R_shake (.code y_R_shake bc_R_shake 2 none :: xw) ({ frames := 1, cells := 0, slots := 0, locals := 25 }) (va_Pc [.ref (A 20), .int a1] (xB (dC, dI) xcl (xty Z) sz [(A 20, xc20 Z A M)])) (va_Qv (fun u : (Int32 × Int32) => u = F_R_shake M a1) (fun u => xE (dC, dI) xcl (xty Z) (va_A [(A 20, xc20 Z A M)] sz) [(A 20, xc20 Z A (ap_R_shake M u))]) (va_A [(A 20, xc20 Z A M)] sz)) 0 0 (va_A [(A 20, xc20 Z A M)] sz) := by
  refine Met.ofW (cc := bc_R_shake) (maxL := 2) (ret := none) (by decide) rfl ?_
  intro p e s m args below meth c s₁ B hml hv
  obtain ⟨rfl, hsz, hP, hK, hD0, hq⟩ := hv
  have hx := B.exec
  have hb := B.bytes
  have hr := B.returns
  have hts := atoms_spec (ws := (.code y_R_shake bc_R_shake 2 none :: xw)) B.pre
  have htt : ∀ w ∈ xw, w.before _ s = true := fun w h => hts w (List.mem_cons_of_mem _ h)
  have hown : s.vm.findClass "CentrifugeUnitModel" = some m.cls := findClass_of_methodNamed B.named
  have hlocks := B.notSynchronized
  subst hsz
  have hD := hD0.self (sz := s.heap.size)
  generalize hAe : va_A [(A 20, xc20 Z A M)] s.heap.size = AA at hD ⊢
  have hA : ∀ q : Nat, s.heap.size ≤ q → AA q := fun q h => by rw [← hAe]; exact Or.inr h
  have hS : va_S AA s.heap s.heap [] := va_S.rf
  have hP : va_P (dC, dI) xcl [(A 20, .inr (10, [.int (M.1 100), .ref (A 21), .ref (A 22), .ref (A 23), .ref (A 24), .ref (A 25), .int (M.1 101), .ref (A 26), .ref (A 27), .ref (A 28), .int (M.1 102), .long (M.2.1 100), .int (M.1 103), .int (M.1 104), .int (M.1 105), .int (M.1 106), .int (M.1 107), .int (M.1 108), .long (M.2.1 101), .long (M.2.1 102), .long (M.2.1 103), .int (M.1 109), .int (M.1 110), .int (M.1 111), .int (M.1 112), .int (M.1 113), .long (M.2.1 104), .long (M.2.1 105), .long (M.2.1 106), .int (M.1 114), .int (M.1 115), .int (M.1 116), .int (M.1 117), .int (M.1 118), .int (M.1 119), .int (M.1 120), .int (M.1 121), .int (M.1 122), .int (M.1 123), .int (M.1 124), .long (M.2.1 107), .int (M.1 125), .ref (A 29), .ref (A 30), .ref (A 31)]))] s.heap := hP
  have hD : va_D AA [(A 20, .inr (10, [.int (M.1 100), .ref (A 21), .ref (A 22), .ref (A 23), .ref (A 24), .ref (A 25), .int (M.1 101), .ref (A 26), .ref (A 27), .ref (A 28), .int (M.1 102), .long (M.2.1 100), .int (M.1 103), .int (M.1 104), .int (M.1 105), .int (M.1 106), .int (M.1 107), .int (M.1 108), .long (M.2.1 101), .long (M.2.1 102), .long (M.2.1 103), .int (M.1 109), .int (M.1 110), .int (M.1 111), .int (M.1 112), .int (M.1 113), .long (M.2.1 104), .long (M.2.1 105), .long (M.2.1 106), .int (M.1 114), .int (M.1 115), .int (M.1 116), .int (M.1 117), .int (M.1 118), .int (M.1 119), .int (M.1 120), .int (M.1 121), .int (M.1 122), .int (M.1 123), .int (M.1 124), .long (M.2.1 107), .int (M.1 125), .ref (A 29), .ref (A 30), .ref (A 31)]))] := hD
  have hl := lv_entry ([.ref (A 20), .int a1]) (n := 2) (Nat.le_of_ble_eq_true rfl)
  rw [lg_entry_eq]
  generalize (lg_sl ([.ref (A 20), .int a1]) ++ List.replicate (2 - (lg_sl ([.ref (A 20), .int a1])).length) Slot.unset).toArray = ls at hl ⊢
  have hl : lv_has ls 2 [(0, .ref (A 20)), (1, .int a1)] := hl
  refine lv_aload_n hx hb d_R_shake_0 rfl (lv_at hl 0 rfl) ?_
  refine lv_iload_n hx hb d_R_shake_1 rfl (lv_at hl 1 rfl) ?_
  refine lv_i2l (v := (a1).toInt64) hx hb d_R_shake_2 rfl ?_
  refine lv_lconst (v := 0) hx hb d_R_shake_3 (by decide) ?_
  refine lv_ldc2 (v := 100000) hx hb hown (htt _ tw_951) d_R_shake_4 ?_
  have hPc := hP.sub (ws' := []) [] rfl
  have hDc := hD.sub (ws' := []) [] (by decide) rfl
  refine xk_p (va_runS (As := [.long (a1).toInt64, .long 0, .long 100000]) (rest := [.ref (A 20)]) ⟨hx, hb, hml, hown, hts⟩ (c_R_in l dC dI Z A _ M (a1).toInt64 0 100000) (va_cwS 3 hts (xw_S _ tw_925 tw_926 tw_12 tw_927) rfl rfl rfl (by decide +kernel) ⟨Nat.le_of_ble_eq_true rfl, Nat.le_of_ble_eq_true rfl⟩) ⟨xB_blind, fun U hU hW => ⟨rfl, xB_at hPc hK hDc hq U hU hW⟩⟩ rfl rfl hl.1 rfl (lv_room (Nat.le_of_ble_eq_true rfl)) d_R_shake_7 ⟨Nat.le_of_ble_eq_true rfl, Nat.le_of_ble_eq_true rfl⟩) ?_
  refine lv_topi (fun z1 hz1 => ?_)
  refine xj_p 2 18 (fun q9 : Int32 => [(0, .ref (A 20)), (1, .int a1)]) (fun q9 : Int32 => [.int q9, .ref (A 20)]) (fun q9 : Int32 => q9 = F_R_shake_j2 M a1 z1) (fun hJ3 => ?_) (fun ls j2 hl hj2 => ?_)
  · refine lv_if_ne (tgt := 17) hx hb d_R_shake_10 rfl (fun h8 => ?_) (fun h8 => ?_)
    · refine lv_iconst (v := 0) hx hb d_R_shake_17 (by decide) ?_
      exact hJ3 _ 0 (lv_sub hl [0, 1] rfl) (by rw [F_R_shake_j2, if_neg h8])
    · refine lv_iconst (v := 1) hx hb d_R_shake_13 (by decide) ?_
      refine lv_goto (tgt := 18) hx hb d_R_shake_14 rfl ?_
      exact hJ3 _ 1 (lv_sub hl [0, 1] rfl) (by rw [F_R_shake_j2, if_pos h8])
  · refine lv_iconst (v := 0) hx hb d_R_shake_18 (by decide) ?_
    have hPc := hP.sub (ws' := [(A 20, xc20 Z A M)]) [0] rfl
    have hDc := hD.sub (ws' := [(A 20, xc20 Z A M)]) [0] (by decide) rfl
    refine xk_i (wc := [(A 20, xc20 Z A M)]) (wr := []) (va_runV (As := [.int j2, .int 0]) (rest := []) ⟨hx, hb, hml, hown, hts⟩ (c_R_throwing l dC dI Z A _ M j2 0) (cwV 2 hts (xw_V _ tw_934 tw_936 tp_12 tw_12 tw_937) rfl rfl rfl (by decide +kernel) ⟨Nat.le_of_ble_eq_true rfl, Nat.le_of_ble_eq_true rfl⟩) ⟨xB_blind, va_recv (q0 := 0) (ci := 10) hK hP rfl rfl, fun U hU hW => ⟨rfl, xB_at hPc hK hDc hq U hU hW⟩⟩ rfl rfl hl.1 rfl (lv_room (Nat.le_of_ble_eq_true rfl)) d_R_shake_19 ⟨Nat.le_of_ble_eq_true rfl, Nat.le_of_ble_eq_true rfl⟩) hP hD hS hA [0] [] rfl rfl (by decide) (by decide) (fun r5 u4 H locs hu4 hP hD hS => ?_)
    obtain ⟨p6, rfl, rfl⟩ : ∃ z : Int32 × Int32, r5 = z.1 ∧ u4 = z.2 := ⟨(r5, u4), rfl, rfl⟩
    replace hu4 : p6 = (F_R_throwing M j2 0) := hu4
    have hP : va_P (dC, dI) xcl [(A 20, .inr (10, [.int (p6.2), .ref (A 21), .ref (A 22), .ref (A 23), .ref (A 24), .ref (A 25), .int (M.1 101), .ref (A 26), .ref (A 27), .ref (A 28), .int (M.1 102), .long (M.2.1 100), .int (M.1 103), .int (M.1 104), .int (M.1 105), .int (M.1 106), .int (M.1 107), .int (M.1 108), .long (M.2.1 101), .long (M.2.1 102), .long (M.2.1 103), .int (M.1 109), .int (M.1 110), .int (M.1 111), .int (M.1 112), .int (M.1 113), .long (M.2.1 104), .long (M.2.1 105), .long (M.2.1 106), .int (M.1 114), .int (M.1 115), .int (M.1 116), .int (M.1 117), .int (M.1 118), .int (M.1 119), .int (M.1 120), .int (M.1 121), .int (M.1 122), .int (M.1 123), .int (M.1 124), .long (M.2.1 107), .int (M.1 125), .ref (A 29), .ref (A 30), .ref (A 31)]))] H := hP
    have hD : va_D AA [(A 20, .inr (10, [.int (p6.2), .ref (A 21), .ref (A 22), .ref (A 23), .ref (A 24), .ref (A 25), .int (M.1 101), .ref (A 26), .ref (A 27), .ref (A 28), .int (M.1 102), .long (M.2.1 100), .int (M.1 103), .int (M.1 104), .int (M.1 105), .int (M.1 106), .int (M.1 107), .int (M.1 108), .long (M.2.1 101), .long (M.2.1 102), .long (M.2.1 103), .int (M.1 109), .int (M.1 110), .int (M.1 111), .int (M.1 112), .int (M.1 113), .long (M.2.1 104), .long (M.2.1 105), .long (M.2.1 106), .int (M.1 114), .int (M.1 115), .int (M.1 116), .int (M.1 117), .int (M.1 118), .int (M.1 119), .int (M.1 120), .int (M.1 121), .int (M.1 122), .int (M.1 123), .int (M.1 124), .long (M.2.1 107), .int (M.1 125), .ref (A 29), .ref (A 30), .ref (A 31)]))] := hD
    refine lv_if_eq (tgt := 26) hx hb d_R_shake_22 rfl (fun h7 => ?_) (fun h7 => ?_)
    · refine lv_aload_n hx hb d_R_shake_26 rfl (lv_at hl 0 rfl) ?_
      refine lv_iload_n hx hb d_R_shake_27 rfl (lv_at hl 1 rfl) ?_
      refine va_put (D := (dC, dI)) (ci := 10) (v := .int a1) (ty := .int) (C := "CentrifugeUnitModel") (T := xF10) (N := 45) hx hb htt xin10 xT10 xTo10 xNm10 hown hK hP hD hS 0 rfl rfl 38 (by decide) (htt _ tw_817) (fun _ h9 => h9) rfl (by decide +kernel) rfl rfl (Nat.le_of_ble_eq_true rfl) d_R_shake_28 (fun H locs hP hD hS => ?_)
      have hP : va_P (dC, dI) xcl [(A 20, .inr (10, [.int (p6.2), .ref (A 21), .ref (A 22), .ref (A 23), .ref (A 24), .ref (A 25), .int (M.1 101), .ref (A 26), .ref (A 27), .ref (A 28), .int (M.1 102), .long (M.2.1 100), .int (M.1 103), .int (M.1 104), .int (M.1 105), .int (M.1 106), .int (M.1 107), .int (M.1 108), .long (M.2.1 101), .long (M.2.1 102), .long (M.2.1 103), .int (M.1 109), .int (M.1 110), .int (M.1 111), .int (M.1 112), .int (M.1 113), .long (M.2.1 104), .long (M.2.1 105), .long (M.2.1 106), .int (M.1 114), .int (M.1 115), .int (M.1 116), .int (M.1 117), .int (M.1 118), .int (M.1 119), .int (M.1 120), .int (M.1 121), .int (M.1 122), .int a1, .int (M.1 124), .long (M.2.1 107), .int (M.1 125), .ref (A 29), .ref (A 30), .ref (A 31)]))] H := hP
      have hD : va_D AA [(A 20, .inr (10, [.int (p6.2), .ref (A 21), .ref (A 22), .ref (A 23), .ref (A 24), .ref (A 25), .int (M.1 101), .ref (A 26), .ref (A 27), .ref (A 28), .int (M.1 102), .long (M.2.1 100), .int (M.1 103), .int (M.1 104), .int (M.1 105), .int (M.1 106), .int (M.1 107), .int (M.1 108), .long (M.2.1 101), .long (M.2.1 102), .long (M.2.1 103), .int (M.1 109), .int (M.1 110), .int (M.1 111), .int (M.1 112), .int (M.1 113), .long (M.2.1 104), .long (M.2.1 105), .long (M.2.1 106), .int (M.1 114), .int (M.1 115), .int (M.1 116), .int (M.1 117), .int (M.1 118), .int (M.1 119), .int (M.1 120), .int (M.1 121), .int (M.1 122), .int a1, .int (M.1 124), .long (M.2.1 107), .int (M.1 125), .ref (A 29), .ref (A 30), .ref (A 31)]))] := hD
      have hP9 := hP.sub (ws' := [(A 20, xc20 Z A (ap_R_shake M ((p6.2), a1)))]) [0] rfl
      have hD9 := hD.sub (ws' := [(A 20, xc20 Z A (ap_R_shake M ((p6.2), a1)))]) [0] (by decide) rfl
      exact W.vret hx hb hr (fun t ht hW => ⟨⟨((p6.2), a1), rfl, (by rw [F_R_shake, ← hz1, F_R_shake_k1, ← hj2, F_R_shake_k3, ← hu4, F_R_shake_k4, if_pos h7]), xE_at hP9 hK hD9 ht hW⟩, hS.F ht⟩) hS.2.2 d_R_shake_31
    · have hP9 := hP.sub (ws' := [(A 20, xc20 Z A (ap_R_shake M ((p6.2), (M.1 123))))]) [0] rfl
      have hD9 := hD.sub (ws' := [(A 20, xc20 Z A (ap_R_shake M ((p6.2), (M.1 123))))]) [0] (by decide) rfl
      exact W.vret hx hb hr (fun t ht hW => ⟨⟨((p6.2), (M.1 123)), rfl, (by rw [F_R_shake, ← hz1, F_R_shake_k1, ← hj2, F_R_shake_k3, ← hu4, F_R_shake_k4, if_neg h7]), xE_at hP9 hK hD9 ht hW⟩, hS.F ht⟩) hS.2.2 d_R_shake_25
abbrev bc_R_chamber : ByteArray := prog_12_method_16_code
def y_R_chamber : MethodName := ⟨"CentrifugeUnitModel", "chamber", "(I)V"⟩
theorem d_R_chamber_0 : decode bc_R_chamber 0 = .ok (.aload_n 0, 1) := by decide +kernel
theorem d_R_chamber_1 : decode bc_R_chamber 1 = .ok (.iload_n 1, 1) := by decide +kernel
theorem d_R_chamber_2 : decode bc_R_chamber 2 = .ok (.i2l, 1) := by decide +kernel
theorem d_R_chamber_3 : decode bc_R_chamber 3 = .ok (.ldc2_w 161, 3) := by decide +kernel
theorem d_R_chamber_6 : decode bc_R_chamber 6 = .ok (.ldc2_w 163, 3) := by decide +kernel
theorem d_R_chamber_9 : decode bc_R_chamber 9 = .ok (.invokestatic 79, 3) := by decide +kernel
theorem d_R_chamber_12 : decode bc_R_chamber 12 = .ok (.ifCond .ne 7, 3) := by decide +kernel
theorem d_R_chamber_15 : decode bc_R_chamber 15 = .ok (.iconst 1, 1) := by decide +kernel
theorem d_R_chamber_16 : decode bc_R_chamber 16 = .ok (.goto 4, 3) := by decide +kernel
theorem d_R_chamber_19 : decode bc_R_chamber 19 = .ok (.iconst 0, 1) := by decide +kernel
theorem d_R_chamber_20 : decode bc_R_chamber 20 = .ok (.iconst 0, 1) := by decide +kernel
theorem d_R_chamber_21 : decode bc_R_chamber 21 = .ok (.invokevirtual 98, 3) := by decide +kernel
theorem d_R_chamber_24 : decode bc_R_chamber 24 = .ok (.ifCond .eq 4, 3) := by decide +kernel
theorem d_R_chamber_27 : decode bc_R_chamber 27 = .ok (.return_, 1) := by decide +kernel
theorem d_R_chamber_28 : decode bc_R_chamber 28 = .ok (.aload_n 0, 1) := by decide +kernel
theorem d_R_chamber_29 : decode bc_R_chamber 29 = .ok (.iload_n 1, 1) := by decide +kernel
theorem d_R_chamber_30 : decode bc_R_chamber 30 = .ok (.putfield 55, 3) := by decide +kernel
theorem d_R_chamber_33 : decode bc_R_chamber 33 = .ok (.return_, 1) := by decide +kernel
abbrev ap_R_chamber (M : XM) (u : (Int32 × Int32)) : XM := ((va_up (va_up M.1 100 (u.1)) 124 (u.2)), M.2)
def F_R_chamber_k4 (M : XM) (a1 : Int32) (z1 : Int32) (j2 : Int32) (p6 : Int32 × Int32) : (Int32 × Int32) := (if p6.1 = 0 then ((p6.2), a1) else ((p6.2), (M.1 124)))
def F_R_chamber_k3 (M : XM) (a1 : Int32) (z1 : Int32) (j2 : Int32) : (Int32 × Int32) := (F_R_chamber_k4 M a1 z1 j2 (F_R_throwing M j2 0))
def F_R_chamber_j2 (M : XM) (a1 : Int32) (z1 : Int32) : Int32 := (if z1 = 0 then 1 else 0)
def F_R_chamber_k1 (M : XM) (a1 : Int32) (z1 : Int32) : (Int32 × Int32) := (F_R_chamber_k3 M a1 z1 (F_R_chamber_j2 M a1 z1))
def F_R_chamber (M : XM) (a1 : Int32) : (Int32 × Int32) := (F_R_chamber_k1 M a1 (F_R_in M (a1).toInt64 (-10000) 10000))
set_option maxHeartbeats 4000000 in
set_option maxRecDepth 100000 in
theorem c_R_chamber (l : Launch) (dC : Nat → ClassId) (dI : Nat → Nat → Nat) (Z : Nat → ClassId) (A : Nat → Nat) (sz : Nat) (M : XM) (a1 : Int32) : Met l y_R_chamber (.code y_R_chamber bc_R_chamber 2 none :: xw) ({ frames := 1, cells := 0, slots := 0, locals := 25 }) (va_Pc [.ref (A 20), .int a1] (xB (dC, dI) xcl (xty Z) sz [(A 20, xc20 Z A M)])) (va_Qv (fun u : (Int32 × Int32) => u = F_R_chamber M a1) (fun u => xE (dC, dI) xcl (xty Z) (va_A [(A 20, xc20 Z A M)] sz) [(A 20, xc20 Z A (ap_R_chamber M u))]) (va_A [(A 20, xc20 Z A M)] sz)) 0 0 (va_A [(A 20, xc20 Z A M)] sz) := by
  refine Met.ofW (cc := bc_R_chamber) (maxL := 2) (ret := none) (by decide) rfl ?_
  intro p e s m args below meth c s₁ B hml hv
  obtain ⟨rfl, hsz, hP, hK, hD0, hq⟩ := hv
  have hx := B.exec
  have hb := B.bytes
  have hr := B.returns
  have hts := atoms_spec (ws := (.code y_R_chamber bc_R_chamber 2 none :: xw)) B.pre
  have htt : ∀ w ∈ xw, w.before _ s = true := fun w h => hts w (List.mem_cons_of_mem _ h)
  have hown : s.vm.findClass "CentrifugeUnitModel" = some m.cls := findClass_of_methodNamed B.named
  have hlocks := B.notSynchronized
  subst hsz
  have hD := hD0.self (sz := s.heap.size)
  generalize hAe : va_A [(A 20, xc20 Z A M)] s.heap.size = AA at hD ⊢
  have hA : ∀ q : Nat, s.heap.size ≤ q → AA q := fun q h => by rw [← hAe]; exact Or.inr h
  have hS : va_S AA s.heap s.heap [] := va_S.rf
  have hP : va_P (dC, dI) xcl [(A 20, .inr (10, [.int (M.1 100), .ref (A 21), .ref (A 22), .ref (A 23), .ref (A 24), .ref (A 25), .int (M.1 101), .ref (A 26), .ref (A 27), .ref (A 28), .int (M.1 102), .long (M.2.1 100), .int (M.1 103), .int (M.1 104), .int (M.1 105), .int (M.1 106), .int (M.1 107), .int (M.1 108), .long (M.2.1 101), .long (M.2.1 102), .long (M.2.1 103), .int (M.1 109), .int (M.1 110), .int (M.1 111), .int (M.1 112), .int (M.1 113), .long (M.2.1 104), .long (M.2.1 105), .long (M.2.1 106), .int (M.1 114), .int (M.1 115), .int (M.1 116), .int (M.1 117), .int (M.1 118), .int (M.1 119), .int (M.1 120), .int (M.1 121), .int (M.1 122), .int (M.1 123), .int (M.1 124), .long (M.2.1 107), .int (M.1 125), .ref (A 29), .ref (A 30), .ref (A 31)]))] s.heap := hP
  have hD : va_D AA [(A 20, .inr (10, [.int (M.1 100), .ref (A 21), .ref (A 22), .ref (A 23), .ref (A 24), .ref (A 25), .int (M.1 101), .ref (A 26), .ref (A 27), .ref (A 28), .int (M.1 102), .long (M.2.1 100), .int (M.1 103), .int (M.1 104), .int (M.1 105), .int (M.1 106), .int (M.1 107), .int (M.1 108), .long (M.2.1 101), .long (M.2.1 102), .long (M.2.1 103), .int (M.1 109), .int (M.1 110), .int (M.1 111), .int (M.1 112), .int (M.1 113), .long (M.2.1 104), .long (M.2.1 105), .long (M.2.1 106), .int (M.1 114), .int (M.1 115), .int (M.1 116), .int (M.1 117), .int (M.1 118), .int (M.1 119), .int (M.1 120), .int (M.1 121), .int (M.1 122), .int (M.1 123), .int (M.1 124), .long (M.2.1 107), .int (M.1 125), .ref (A 29), .ref (A 30), .ref (A 31)]))] := hD
  have hl := lv_entry ([.ref (A 20), .int a1]) (n := 2) (Nat.le_of_ble_eq_true rfl)
  rw [lg_entry_eq]
  generalize (lg_sl ([.ref (A 20), .int a1]) ++ List.replicate (2 - (lg_sl ([.ref (A 20), .int a1])).length) Slot.unset).toArray = ls at hl ⊢
  have hl : lv_has ls 2 [(0, .ref (A 20)), (1, .int a1)] := hl
  refine lv_aload_n hx hb d_R_chamber_0 rfl (lv_at hl 0 rfl) ?_
  refine lv_iload_n hx hb d_R_chamber_1 rfl (lv_at hl 1 rfl) ?_
  refine lv_i2l (v := (a1).toInt64) hx hb d_R_chamber_2 rfl ?_
  refine lv_ldc2 (v := (-10000)) hx hb hown (htt _ tw_988) d_R_chamber_3 ?_
  refine lv_ldc2 (v := 10000) hx hb hown (htt _ tw_989) d_R_chamber_6 ?_
  have hPc := hP.sub (ws' := []) [] rfl
  have hDc := hD.sub (ws' := []) [] (by decide) rfl
  refine xk_p (va_runS (As := [.long (a1).toInt64, .long (-10000), .long 10000]) (rest := [.ref (A 20)]) ⟨hx, hb, hml, hown, hts⟩ (c_R_in l dC dI Z A _ M (a1).toInt64 (-10000) 10000) (va_cwS 3 hts (xw_S _ tw_925 tw_926 tw_12 tw_927) rfl rfl rfl (by decide +kernel) ⟨Nat.le_of_ble_eq_true rfl, Nat.le_of_ble_eq_true rfl⟩) ⟨xB_blind, fun U hU hW => ⟨rfl, xB_at hPc hK hDc hq U hU hW⟩⟩ rfl rfl hl.1 rfl (lv_room (Nat.le_of_ble_eq_true rfl)) d_R_chamber_9 ⟨Nat.le_of_ble_eq_true rfl, Nat.le_of_ble_eq_true rfl⟩) ?_
  refine lv_topi (fun z1 hz1 => ?_)
  refine xj_p 2 20 (fun q9 : Int32 => [(0, .ref (A 20)), (1, .int a1)]) (fun q9 : Int32 => [.int q9, .ref (A 20)]) (fun q9 : Int32 => q9 = F_R_chamber_j2 M a1 z1) (fun hJ3 => ?_) (fun ls j2 hl hj2 => ?_)
  · refine lv_if_ne (tgt := 19) hx hb d_R_chamber_12 rfl (fun h8 => ?_) (fun h8 => ?_)
    · refine lv_iconst (v := 0) hx hb d_R_chamber_19 (by decide) ?_
      exact hJ3 _ 0 (lv_sub hl [0, 1] rfl) (by rw [F_R_chamber_j2, if_neg h8])
    · refine lv_iconst (v := 1) hx hb d_R_chamber_15 (by decide) ?_
      refine lv_goto (tgt := 20) hx hb d_R_chamber_16 rfl ?_
      exact hJ3 _ 1 (lv_sub hl [0, 1] rfl) (by rw [F_R_chamber_j2, if_pos h8])
  · refine lv_iconst (v := 0) hx hb d_R_chamber_20 (by decide) ?_
    have hPc := hP.sub (ws' := [(A 20, xc20 Z A M)]) [0] rfl
    have hDc := hD.sub (ws' := [(A 20, xc20 Z A M)]) [0] (by decide) rfl
    refine xk_i (wc := [(A 20, xc20 Z A M)]) (wr := []) (va_runV (As := [.int j2, .int 0]) (rest := []) ⟨hx, hb, hml, hown, hts⟩ (c_R_throwing l dC dI Z A _ M j2 0) (cwV 2 hts (xw_V _ tw_934 tw_936 tp_12 tw_12 tw_937) rfl rfl rfl (by decide +kernel) ⟨Nat.le_of_ble_eq_true rfl, Nat.le_of_ble_eq_true rfl⟩) ⟨xB_blind, va_recv (q0 := 0) (ci := 10) hK hP rfl rfl, fun U hU hW => ⟨rfl, xB_at hPc hK hDc hq U hU hW⟩⟩ rfl rfl hl.1 rfl (lv_room (Nat.le_of_ble_eq_true rfl)) d_R_chamber_21 ⟨Nat.le_of_ble_eq_true rfl, Nat.le_of_ble_eq_true rfl⟩) hP hD hS hA [0] [] rfl rfl (by decide) (by decide) (fun r5 u4 H locs hu4 hP hD hS => ?_)
    obtain ⟨p6, rfl, rfl⟩ : ∃ z : Int32 × Int32, r5 = z.1 ∧ u4 = z.2 := ⟨(r5, u4), rfl, rfl⟩
    replace hu4 : p6 = (F_R_throwing M j2 0) := hu4
    have hP : va_P (dC, dI) xcl [(A 20, .inr (10, [.int (p6.2), .ref (A 21), .ref (A 22), .ref (A 23), .ref (A 24), .ref (A 25), .int (M.1 101), .ref (A 26), .ref (A 27), .ref (A 28), .int (M.1 102), .long (M.2.1 100), .int (M.1 103), .int (M.1 104), .int (M.1 105), .int (M.1 106), .int (M.1 107), .int (M.1 108), .long (M.2.1 101), .long (M.2.1 102), .long (M.2.1 103), .int (M.1 109), .int (M.1 110), .int (M.1 111), .int (M.1 112), .int (M.1 113), .long (M.2.1 104), .long (M.2.1 105), .long (M.2.1 106), .int (M.1 114), .int (M.1 115), .int (M.1 116), .int (M.1 117), .int (M.1 118), .int (M.1 119), .int (M.1 120), .int (M.1 121), .int (M.1 122), .int (M.1 123), .int (M.1 124), .long (M.2.1 107), .int (M.1 125), .ref (A 29), .ref (A 30), .ref (A 31)]))] H := hP
    have hD : va_D AA [(A 20, .inr (10, [.int (p6.2), .ref (A 21), .ref (A 22), .ref (A 23), .ref (A 24), .ref (A 25), .int (M.1 101), .ref (A 26), .ref (A 27), .ref (A 28), .int (M.1 102), .long (M.2.1 100), .int (M.1 103), .int (M.1 104), .int (M.1 105), .int (M.1 106), .int (M.1 107), .int (M.1 108), .long (M.2.1 101), .long (M.2.1 102), .long (M.2.1 103), .int (M.1 109), .int (M.1 110), .int (M.1 111), .int (M.1 112), .int (M.1 113), .long (M.2.1 104), .long (M.2.1 105), .long (M.2.1 106), .int (M.1 114), .int (M.1 115), .int (M.1 116), .int (M.1 117), .int (M.1 118), .int (M.1 119), .int (M.1 120), .int (M.1 121), .int (M.1 122), .int (M.1 123), .int (M.1 124), .long (M.2.1 107), .int (M.1 125), .ref (A 29), .ref (A 30), .ref (A 31)]))] := hD
    refine lv_if_eq (tgt := 28) hx hb d_R_chamber_24 rfl (fun h7 => ?_) (fun h7 => ?_)
    · refine lv_aload_n hx hb d_R_chamber_28 rfl (lv_at hl 0 rfl) ?_
      refine lv_iload_n hx hb d_R_chamber_29 rfl (lv_at hl 1 rfl) ?_
      refine va_put (D := (dC, dI)) (ci := 10) (v := .int a1) (ty := .int) (C := "CentrifugeUnitModel") (T := xF10) (N := 45) hx hb htt xin10 xT10 xTo10 xNm10 hown hK hP hD hS 0 rfl rfl 39 (by decide) (htt _ tw_818) (fun _ h9 => h9) rfl (by decide +kernel) rfl rfl (Nat.le_of_ble_eq_true rfl) d_R_chamber_30 (fun H locs hP hD hS => ?_)
      have hP : va_P (dC, dI) xcl [(A 20, .inr (10, [.int (p6.2), .ref (A 21), .ref (A 22), .ref (A 23), .ref (A 24), .ref (A 25), .int (M.1 101), .ref (A 26), .ref (A 27), .ref (A 28), .int (M.1 102), .long (M.2.1 100), .int (M.1 103), .int (M.1 104), .int (M.1 105), .int (M.1 106), .int (M.1 107), .int (M.1 108), .long (M.2.1 101), .long (M.2.1 102), .long (M.2.1 103), .int (M.1 109), .int (M.1 110), .int (M.1 111), .int (M.1 112), .int (M.1 113), .long (M.2.1 104), .long (M.2.1 105), .long (M.2.1 106), .int (M.1 114), .int (M.1 115), .int (M.1 116), .int (M.1 117), .int (M.1 118), .int (M.1 119), .int (M.1 120), .int (M.1 121), .int (M.1 122), .int (M.1 123), .int a1, .long (M.2.1 107), .int (M.1 125), .ref (A 29), .ref (A 30), .ref (A 31)]))] H := hP
      have hD : va_D AA [(A 20, .inr (10, [.int (p6.2), .ref (A 21), .ref (A 22), .ref (A 23), .ref (A 24), .ref (A 25), .int (M.1 101), .ref (A 26), .ref (A 27), .ref (A 28), .int (M.1 102), .long (M.2.1 100), .int (M.1 103), .int (M.1 104), .int (M.1 105), .int (M.1 106), .int (M.1 107), .int (M.1 108), .long (M.2.1 101), .long (M.2.1 102), .long (M.2.1 103), .int (M.1 109), .int (M.1 110), .int (M.1 111), .int (M.1 112), .int (M.1 113), .long (M.2.1 104), .long (M.2.1 105), .long (M.2.1 106), .int (M.1 114), .int (M.1 115), .int (M.1 116), .int (M.1 117), .int (M.1 118), .int (M.1 119), .int (M.1 120), .int (M.1 121), .int (M.1 122), .int (M.1 123), .int a1, .long (M.2.1 107), .int (M.1 125), .ref (A 29), .ref (A 30), .ref (A 31)]))] := hD
      have hP9 := hP.sub (ws' := [(A 20, xc20 Z A (ap_R_chamber M ((p6.2), a1)))]) [0] rfl
      have hD9 := hD.sub (ws' := [(A 20, xc20 Z A (ap_R_chamber M ((p6.2), a1)))]) [0] (by decide) rfl
      exact W.vret hx hb hr (fun t ht hW => ⟨⟨((p6.2), a1), rfl, (by rw [F_R_chamber, ← hz1, F_R_chamber_k1, ← hj2, F_R_chamber_k3, ← hu4, F_R_chamber_k4, if_pos h7]), xE_at hP9 hK hD9 ht hW⟩, hS.F ht⟩) hS.2.2 d_R_chamber_33
    · have hP9 := hP.sub (ws' := [(A 20, xc20 Z A (ap_R_chamber M ((p6.2), (M.1 124))))]) [0] rfl
      have hD9 := hD.sub (ws' := [(A 20, xc20 Z A (ap_R_chamber M ((p6.2), (M.1 124))))]) [0] (by decide) rfl
      exact W.vret hx hb hr (fun t ht hW => ⟨⟨((p6.2), (M.1 124)), rfl, (by rw [F_R_chamber, ← hz1, F_R_chamber_k1, ← hj2, F_R_chamber_k3, ← hu4, F_R_chamber_k4, if_neg h7]), xE_at hP9 hK hD9 ht hW⟩, hS.F ht⟩) hS.2.2 d_R_chamber_27
abbrev bc_R_fail : ByteArray := prog_12_method_17_code
def y_R_fail : MethodName := ⟨"CentrifugeUnitModel", "fail", "(II)V"⟩
theorem d_R_fail_0 : decode bc_R_fail 0 = .ok (.aload_n 0, 1) := by decide +kernel
theorem d_R_fail_1 : decode bc_R_fail 1 = .ok (.iload_n 1, 1) := by decide +kernel
theorem d_R_fail_2 : decode bc_R_fail 2 = .ok (.i2l, 1) := by decide +kernel
theorem d_R_fail_3 : decode bc_R_fail 3 = .ok (.lconst 0, 1) := by decide +kernel
theorem d_R_fail_4 : decode bc_R_fail 4 = .ok (.lconst 1, 1) := by decide +kernel
theorem d_R_fail_5 : decode bc_R_fail 5 = .ok (.invokestatic 79, 3) := by decide +kernel
theorem d_R_fail_8 : decode bc_R_fail 8 = .ok (.ifCond .eq 17, 3) := by decide +kernel
theorem d_R_fail_11 : decode bc_R_fail 11 = .ok (.iload_n 2, 1) := by decide +kernel
theorem d_R_fail_12 : decode bc_R_fail 12 = .ok (.i2l, 1) := by decide +kernel
theorem d_R_fail_13 : decode bc_R_fail 13 = .ok (.ldc2_w 102, 3) := by decide +kernel
theorem d_R_fail_16 : decode bc_R_fail 16 = .ok (.ldc2_w 108, 3) := by decide +kernel
theorem d_R_fail_19 : decode bc_R_fail 19 = .ok (.invokestatic 79, 3) := by decide +kernel
theorem d_R_fail_22 : decode bc_R_fail 22 = .ok (.ifCond .ne 7, 3) := by decide +kernel
theorem d_R_fail_25 : decode bc_R_fail 25 = .ok (.iconst 1, 1) := by decide +kernel
theorem d_R_fail_26 : decode bc_R_fail 26 = .ok (.goto 4, 3) := by decide +kernel
theorem d_R_fail_29 : decode bc_R_fail 29 = .ok (.iconst 0, 1) := by decide +kernel
theorem d_R_fail_30 : decode bc_R_fail 30 = .ok (.iconst 0, 1) := by decide +kernel
theorem d_R_fail_31 : decode bc_R_fail 31 = .ok (.invokevirtual 98, 3) := by decide +kernel
theorem d_R_fail_34 : decode bc_R_fail 34 = .ok (.ifCond .eq 4, 3) := by decide +kernel
theorem d_R_fail_37 : decode bc_R_fail 37 = .ok (.return_, 1) := by decide +kernel
theorem d_R_fail_38 : decode bc_R_fail 38 = .ok (.iload_n 1, 1) := by decide +kernel
theorem d_R_fail_39 : decode bc_R_fail 39 = .ok (.ifCond .ne 11, 3) := by decide +kernel
theorem d_R_fail_42 : decode bc_R_fail 42 = .ok (.aload_n 0, 1) := by decide +kernel
theorem d_R_fail_43 : decode bc_R_fail 43 = .ok (.iload_n 2, 1) := by decide +kernel
theorem d_R_fail_44 : decode bc_R_fail 44 = .ok (.putfield 39, 3) := by decide +kernel
theorem d_R_fail_47 : decode bc_R_fail 47 = .ok (.goto 8, 3) := by decide +kernel
theorem d_R_fail_50 : decode bc_R_fail 50 = .ok (.aload_n 0, 1) := by decide +kernel
theorem d_R_fail_51 : decode bc_R_fail 51 = .ok (.iload_n 2, 1) := by decide +kernel
theorem d_R_fail_52 : decode bc_R_fail 52 = .ok (.putfield 42, 3) := by decide +kernel
theorem d_R_fail_55 : decode bc_R_fail 55 = .ok (.return_, 1) := by decide +kernel
abbrev ap_R_fail (M : XM) (u : (Int32 × Int32 × Int32)) : XM := ((va_up (va_up (va_up M.1 100 (u.1)) 108 (u.2.1)) 107 (u.2.2)), M.2)
def F_R_fail_k5 (M : XM) (a1 : Int32) (a2 : Int32) (z1 : Int32) (j2 : Int32) (p6 : Int32 × Int32) : (Int32 × Int32 × Int32) := (if p6.1 = 0 then (if a1 = 0 then ((p6.2), (M.1 108), a2) else ((p6.2), a2, (M.1 107))) else ((p6.2), (M.1 108), (M.1 107)))
def F_R_fail_k4 (M : XM) (a1 : Int32) (a2 : Int32) (z1 : Int32) (j2 : Int32) : (Int32 × Int32 × Int32) := (F_R_fail_k5 M a1 a2 z1 j2 (F_R_throwing M j2 0))
def F_R_fail_k2 (M : XM) (a1 : Int32) (a2 : Int32) (z1 : Int32) (z10 : Int32) : Int32 := (if z10 = 0 then 1 else 0)
def F_R_fail_j3 (M : XM) (a1 : Int32) (a2 : Int32) (z1 : Int32) : Int32 := (if z1 = 0 then 1 else (F_R_fail_k2 M a1 a2 z1 (F_R_in M (a2).toInt64 (-1) 1000000)))
def F_R_fail_k1 (M : XM) (a1 : Int32) (a2 : Int32) (z1 : Int32) : (Int32 × Int32 × Int32) := (F_R_fail_k4 M a1 a2 z1 (F_R_fail_j3 M a1 a2 z1))
def F_R_fail (M : XM) (a1 : Int32) (a2 : Int32) : (Int32 × Int32 × Int32) := (F_R_fail_k1 M a1 a2 (F_R_in M (a1).toInt64 0 1))
set_option maxHeartbeats 4000000 in
set_option maxRecDepth 100000 in
theorem c_R_fail (l : Launch) (dC : Nat → ClassId) (dI : Nat → Nat → Nat) (Z : Nat → ClassId) (A : Nat → Nat) (sz : Nat) (M : XM) (a1 : Int32) (a2 : Int32) : Met l y_R_fail (.code y_R_fail bc_R_fail 3 none :: xw) ({ frames := 1, cells := 0, slots := 0, locals := 25 }) (va_Pc [.ref (A 20), .int a1, .int a2] (xB (dC, dI) xcl (xty Z) sz [(A 20, xc20 Z A M)])) (va_Qv (fun u : (Int32 × Int32 × Int32) => u = F_R_fail M a1 a2) (fun u => xE (dC, dI) xcl (xty Z) (va_A [(A 20, xc20 Z A M)] sz) [(A 20, xc20 Z A (ap_R_fail M u))]) (va_A [(A 20, xc20 Z A M)] sz)) 0 0 (va_A [(A 20, xc20 Z A M)] sz) := by
  refine Met.ofW (cc := bc_R_fail) (maxL := 3) (ret := none) (by decide) rfl ?_
  intro p e s m args below meth c s₁ B hml hv
  obtain ⟨rfl, hsz, hP, hK, hD0, hq⟩ := hv
  have hx := B.exec
  have hb := B.bytes
  have hr := B.returns
  have hts := atoms_spec (ws := (.code y_R_fail bc_R_fail 3 none :: xw)) B.pre
  have htt : ∀ w ∈ xw, w.before _ s = true := fun w h => hts w (List.mem_cons_of_mem _ h)
  have hown : s.vm.findClass "CentrifugeUnitModel" = some m.cls := findClass_of_methodNamed B.named
  have hlocks := B.notSynchronized
  subst hsz
  have hD := hD0.self (sz := s.heap.size)
  generalize hAe : va_A [(A 20, xc20 Z A M)] s.heap.size = AA at hD ⊢
  have hA : ∀ q : Nat, s.heap.size ≤ q → AA q := fun q h => by rw [← hAe]; exact Or.inr h
  have hS : va_S AA s.heap s.heap [] := va_S.rf
  have hP : va_P (dC, dI) xcl [(A 20, .inr (10, [.int (M.1 100), .ref (A 21), .ref (A 22), .ref (A 23), .ref (A 24), .ref (A 25), .int (M.1 101), .ref (A 26), .ref (A 27), .ref (A 28), .int (M.1 102), .long (M.2.1 100), .int (M.1 103), .int (M.1 104), .int (M.1 105), .int (M.1 106), .int (M.1 107), .int (M.1 108), .long (M.2.1 101), .long (M.2.1 102), .long (M.2.1 103), .int (M.1 109), .int (M.1 110), .int (M.1 111), .int (M.1 112), .int (M.1 113), .long (M.2.1 104), .long (M.2.1 105), .long (M.2.1 106), .int (M.1 114), .int (M.1 115), .int (M.1 116), .int (M.1 117), .int (M.1 118), .int (M.1 119), .int (M.1 120), .int (M.1 121), .int (M.1 122), .int (M.1 123), .int (M.1 124), .long (M.2.1 107), .int (M.1 125), .ref (A 29), .ref (A 30), .ref (A 31)]))] s.heap := hP
  have hD : va_D AA [(A 20, .inr (10, [.int (M.1 100), .ref (A 21), .ref (A 22), .ref (A 23), .ref (A 24), .ref (A 25), .int (M.1 101), .ref (A 26), .ref (A 27), .ref (A 28), .int (M.1 102), .long (M.2.1 100), .int (M.1 103), .int (M.1 104), .int (M.1 105), .int (M.1 106), .int (M.1 107), .int (M.1 108), .long (M.2.1 101), .long (M.2.1 102), .long (M.2.1 103), .int (M.1 109), .int (M.1 110), .int (M.1 111), .int (M.1 112), .int (M.1 113), .long (M.2.1 104), .long (M.2.1 105), .long (M.2.1 106), .int (M.1 114), .int (M.1 115), .int (M.1 116), .int (M.1 117), .int (M.1 118), .int (M.1 119), .int (M.1 120), .int (M.1 121), .int (M.1 122), .int (M.1 123), .int (M.1 124), .long (M.2.1 107), .int (M.1 125), .ref (A 29), .ref (A 30), .ref (A 31)]))] := hD
  have hl := lv_entry ([.ref (A 20), .int a1, .int a2]) (n := 3) (Nat.le_of_ble_eq_true rfl)
  rw [lg_entry_eq]
  generalize (lg_sl ([.ref (A 20), .int a1, .int a2]) ++ List.replicate (3 - (lg_sl ([.ref (A 20), .int a1, .int a2])).length) Slot.unset).toArray = ls at hl ⊢
  have hl : lv_has ls 3 [(0, .ref (A 20)), (1, .int a1), (2, .int a2)] := hl
  refine lv_aload_n hx hb d_R_fail_0 rfl (lv_at hl 0 rfl) ?_
  refine lv_iload_n hx hb d_R_fail_1 rfl (lv_at hl 1 rfl) ?_
  refine lv_i2l (v := (a1).toInt64) hx hb d_R_fail_2 rfl ?_
  refine lv_lconst (v := 0) hx hb d_R_fail_3 (by decide) ?_
  refine lv_lconst (v := 1) hx hb d_R_fail_4 (by decide) ?_
  have hPc := hP.sub (ws' := []) [] rfl
  have hDc := hD.sub (ws' := []) [] (by decide) rfl
  refine xk_p (va_runS (As := [.long (a1).toInt64, .long 0, .long 1]) (rest := [.ref (A 20)]) ⟨hx, hb, hml, hown, hts⟩ (c_R_in l dC dI Z A _ M (a1).toInt64 0 1) (va_cwS 3 hts (xw_S _ tw_925 tw_926 tw_12 tw_927) rfl rfl rfl (by decide +kernel) ⟨Nat.le_of_ble_eq_true rfl, Nat.le_of_ble_eq_true rfl⟩) ⟨xB_blind, fun U hU hW => ⟨rfl, xB_at hPc hK hDc hq U hU hW⟩⟩ rfl rfl hl.1 rfl (lv_room (Nat.le_of_ble_eq_true rfl)) d_R_fail_5 ⟨Nat.le_of_ble_eq_true rfl, Nat.le_of_ble_eq_true rfl⟩) ?_
  refine lv_topi (fun z1 hz1 => ?_)
  refine xj_p 3 30 (fun q9 : Int32 => [(0, .ref (A 20)), (1, .int a1), (2, .int a2)]) (fun q9 : Int32 => [.int q9, .ref (A 20)]) (fun q9 : Int32 => q9 = F_R_fail_j3 M a1 a2 z1) (fun hJ3 => ?_) (fun ls j2 hl hj2 => ?_)
  · refine lv_if_eq (tgt := 25) hx hb d_R_fail_8 rfl (fun h9 => ?_) (fun h9 => ?_)
    · refine lv_iconst (v := 1) hx hb d_R_fail_25 (by decide) ?_
      refine lv_goto (tgt := 30) hx hb d_R_fail_26 rfl ?_
      exact hJ3 _ 1 (lv_sub hl [0, 1, 2] rfl) (by rw [F_R_fail_j3, if_pos h9])
    · refine lv_iload_n hx hb d_R_fail_11 rfl (lv_at hl 2 rfl) ?_
      refine lv_i2l (v := (a2).toInt64) hx hb d_R_fail_12 rfl ?_
      refine lv_ldc2 (v := (-1)) hx hb hown (htt _ tw_942) d_R_fail_13 ?_
      refine lv_ldc2 (v := 1000000) hx hb hown (htt _ tw_952) d_R_fail_16 ?_
      have hPc := hP.sub (ws' := []) [] rfl
      have hDc := hD.sub (ws' := []) [] (by decide) rfl
      refine xk_p (va_runS (As := [.long (a2).toInt64, .long (-1), .long 1000000]) (rest := [.ref (A 20)]) ⟨hx, hb, hml, hown, hts⟩ (c_R_in l dC dI Z A _ M (a2).toInt64 (-1) 1000000) (va_cwS 3 hts (xw_S _ tw_925 tw_926 tw_12 tw_927) rfl rfl rfl (by decide +kernel) ⟨Nat.le_of_ble_eq_true rfl, Nat.le_of_ble_eq_true rfl⟩) ⟨xB_blind, fun U hU hW => ⟨rfl, xB_at hPc hK hDc hq U hU hW⟩⟩ rfl rfl hl.1 rfl (lv_room (Nat.le_of_ble_eq_true rfl)) d_R_fail_19 ⟨Nat.le_of_ble_eq_true rfl, Nat.le_of_ble_eq_true rfl⟩) ?_
      refine lv_topi (fun z10 hz10 => ?_)
      refine lv_if_ne (tgt := 29) hx hb d_R_fail_22 rfl (fun h11 => ?_) (fun h11 => ?_)
      · refine lv_iconst (v := 0) hx hb d_R_fail_29 (by decide) ?_
        exact hJ3 _ 0 (lv_sub hl [0, 1, 2] rfl) (by rw [F_R_fail_j3, if_neg h9, ← hz10, F_R_fail_k2, if_neg h11])
      · refine lv_iconst (v := 1) hx hb d_R_fail_25 (by decide) ?_
        refine lv_goto (tgt := 30) hx hb d_R_fail_26 rfl ?_
        exact hJ3 _ 1 (lv_sub hl [0, 1, 2] rfl) (by rw [F_R_fail_j3, if_neg h9, ← hz10, F_R_fail_k2, if_pos h11])
  · refine lv_iconst (v := 0) hx hb d_R_fail_30 (by decide) ?_
    have hPc := hP.sub (ws' := [(A 20, xc20 Z A M)]) [0] rfl
    have hDc := hD.sub (ws' := [(A 20, xc20 Z A M)]) [0] (by decide) rfl
    refine xk_i (wc := [(A 20, xc20 Z A M)]) (wr := []) (va_runV (As := [.int j2, .int 0]) (rest := []) ⟨hx, hb, hml, hown, hts⟩ (c_R_throwing l dC dI Z A _ M j2 0) (cwV 2 hts (xw_V _ tw_934 tw_936 tp_12 tw_12 tw_937) rfl rfl rfl (by decide +kernel) ⟨Nat.le_of_ble_eq_true rfl, Nat.le_of_ble_eq_true rfl⟩) ⟨xB_blind, va_recv (q0 := 0) (ci := 10) hK hP rfl rfl, fun U hU hW => ⟨rfl, xB_at hPc hK hDc hq U hU hW⟩⟩ rfl rfl hl.1 rfl (lv_room (Nat.le_of_ble_eq_true rfl)) d_R_fail_31 ⟨Nat.le_of_ble_eq_true rfl, Nat.le_of_ble_eq_true rfl⟩) hP hD hS hA [0] [] rfl rfl (by decide) (by decide) (fun r5 u4 H locs hu4 hP hD hS => ?_)
    obtain ⟨p6, rfl, rfl⟩ : ∃ z : Int32 × Int32, r5 = z.1 ∧ u4 = z.2 := ⟨(r5, u4), rfl, rfl⟩
    replace hu4 : p6 = (F_R_throwing M j2 0) := hu4
    have hP : va_P (dC, dI) xcl [(A 20, .inr (10, [.int (p6.2), .ref (A 21), .ref (A 22), .ref (A 23), .ref (A 24), .ref (A 25), .int (M.1 101), .ref (A 26), .ref (A 27), .ref (A 28), .int (M.1 102), .long (M.2.1 100), .int (M.1 103), .int (M.1 104), .int (M.1 105), .int (M.1 106), .int (M.1 107), .int (M.1 108), .long (M.2.1 101), .long (M.2.1 102), .long (M.2.1 103), .int (M.1 109), .int (M.1 110), .int (M.1 111), .int (M.1 112), .int (M.1 113), .long (M.2.1 104), .long (M.2.1 105), .long (M.2.1 106), .int (M.1 114), .int (M.1 115), .int (M.1 116), .int (M.1 117), .int (M.1 118), .int (M.1 119), .int (M.1 120), .int (M.1 121), .int (M.1 122), .int (M.1 123), .int (M.1 124), .long (M.2.1 107), .int (M.1 125), .ref (A 29), .ref (A 30), .ref (A 31)]))] H := hP
    have hD : va_D AA [(A 20, .inr (10, [.int (p6.2), .ref (A 21), .ref (A 22), .ref (A 23), .ref (A 24), .ref (A 25), .int (M.1 101), .ref (A 26), .ref (A 27), .ref (A 28), .int (M.1 102), .long (M.2.1 100), .int (M.1 103), .int (M.1 104), .int (M.1 105), .int (M.1 106), .int (M.1 107), .int (M.1 108), .long (M.2.1 101), .long (M.2.1 102), .long (M.2.1 103), .int (M.1 109), .int (M.1 110), .int (M.1 111), .int (M.1 112), .int (M.1 113), .long (M.2.1 104), .long (M.2.1 105), .long (M.2.1 106), .int (M.1 114), .int (M.1 115), .int (M.1 116), .int (M.1 117), .int (M.1 118), .int (M.1 119), .int (M.1 120), .int (M.1 121), .int (M.1 122), .int (M.1 123), .int (M.1 124), .long (M.2.1 107), .int (M.1 125), .ref (A 29), .ref (A 30), .ref (A 31)]))] := hD
    refine lv_if_eq (tgt := 38) hx hb d_R_fail_34 rfl (fun h7 => ?_) (fun h7 => ?_)
    · refine lv_iload_n hx hb d_R_fail_38 rfl (lv_at hl 1 rfl) ?_
      refine lv_if_ne (tgt := 50) hx hb d_R_fail_39 rfl (fun h8 => ?_) (fun h8 => ?_)
      · refine lv_aload_n hx hb d_R_fail_50 rfl (lv_at hl 0 rfl) ?_
        refine lv_iload_n hx hb d_R_fail_51 rfl (lv_at hl 2 rfl) ?_
        refine va_put (D := (dC, dI)) (ci := 10) (v := .int a2) (ty := .int) (C := "CentrifugeUnitModel") (T := xF10) (N := 45) hx hb htt xin10 xT10 xTo10 xNm10 hown hK hP hD hS 0 rfl rfl 17 (by decide) (htt _ tw_796) (fun _ h9 => h9) rfl (by decide +kernel) rfl rfl (Nat.le_of_ble_eq_true rfl) d_R_fail_52 (fun H locs hP hD hS => ?_)
        have hP : va_P (dC, dI) xcl [(A 20, .inr (10, [.int (p6.2), .ref (A 21), .ref (A 22), .ref (A 23), .ref (A 24), .ref (A 25), .int (M.1 101), .ref (A 26), .ref (A 27), .ref (A 28), .int (M.1 102), .long (M.2.1 100), .int (M.1 103), .int (M.1 104), .int (M.1 105), .int (M.1 106), .int (M.1 107), .int a2, .long (M.2.1 101), .long (M.2.1 102), .long (M.2.1 103), .int (M.1 109), .int (M.1 110), .int (M.1 111), .int (M.1 112), .int (M.1 113), .long (M.2.1 104), .long (M.2.1 105), .long (M.2.1 106), .int (M.1 114), .int (M.1 115), .int (M.1 116), .int (M.1 117), .int (M.1 118), .int (M.1 119), .int (M.1 120), .int (M.1 121), .int (M.1 122), .int (M.1 123), .int (M.1 124), .long (M.2.1 107), .int (M.1 125), .ref (A 29), .ref (A 30), .ref (A 31)]))] H := hP
        have hD : va_D AA [(A 20, .inr (10, [.int (p6.2), .ref (A 21), .ref (A 22), .ref (A 23), .ref (A 24), .ref (A 25), .int (M.1 101), .ref (A 26), .ref (A 27), .ref (A 28), .int (M.1 102), .long (M.2.1 100), .int (M.1 103), .int (M.1 104), .int (M.1 105), .int (M.1 106), .int (M.1 107), .int a2, .long (M.2.1 101), .long (M.2.1 102), .long (M.2.1 103), .int (M.1 109), .int (M.1 110), .int (M.1 111), .int (M.1 112), .int (M.1 113), .long (M.2.1 104), .long (M.2.1 105), .long (M.2.1 106), .int (M.1 114), .int (M.1 115), .int (M.1 116), .int (M.1 117), .int (M.1 118), .int (M.1 119), .int (M.1 120), .int (M.1 121), .int (M.1 122), .int (M.1 123), .int (M.1 124), .long (M.2.1 107), .int (M.1 125), .ref (A 29), .ref (A 30), .ref (A 31)]))] := hD
        have hP9 := hP.sub (ws' := [(A 20, xc20 Z A (ap_R_fail M ((p6.2), a2, (M.1 107))))]) [0] rfl
        have hD9 := hD.sub (ws' := [(A 20, xc20 Z A (ap_R_fail M ((p6.2), a2, (M.1 107))))]) [0] (by decide) rfl
        exact W.vret hx hb hr (fun t ht hW => ⟨⟨((p6.2), a2, (M.1 107)), rfl, (by rw [F_R_fail, ← hz1, F_R_fail_k1, ← hj2, F_R_fail_k4, ← hu4, F_R_fail_k5, if_pos h7, if_neg h8]), xE_at hP9 hK hD9 ht hW⟩, hS.F ht⟩) hS.2.2 d_R_fail_55
      · refine lv_aload_n hx hb d_R_fail_42 rfl (lv_at hl 0 rfl) ?_
        refine lv_iload_n hx hb d_R_fail_43 rfl (lv_at hl 2 rfl) ?_
        refine va_put (D := (dC, dI)) (ci := 10) (v := .int a2) (ty := .int) (C := "CentrifugeUnitModel") (T := xF10) (N := 45) hx hb htt xin10 xT10 xTo10 xNm10 hown hK hP hD hS 0 rfl rfl 16 (by decide) (htt _ tw_795) (fun _ h9 => h9) rfl (by decide +kernel) rfl rfl (Nat.le_of_ble_eq_true rfl) d_R_fail_44 (fun H locs hP hD hS => ?_)
        have hP : va_P (dC, dI) xcl [(A 20, .inr (10, [.int (p6.2), .ref (A 21), .ref (A 22), .ref (A 23), .ref (A 24), .ref (A 25), .int (M.1 101), .ref (A 26), .ref (A 27), .ref (A 28), .int (M.1 102), .long (M.2.1 100), .int (M.1 103), .int (M.1 104), .int (M.1 105), .int (M.1 106), .int a2, .int (M.1 108), .long (M.2.1 101), .long (M.2.1 102), .long (M.2.1 103), .int (M.1 109), .int (M.1 110), .int (M.1 111), .int (M.1 112), .int (M.1 113), .long (M.2.1 104), .long (M.2.1 105), .long (M.2.1 106), .int (M.1 114), .int (M.1 115), .int (M.1 116), .int (M.1 117), .int (M.1 118), .int (M.1 119), .int (M.1 120), .int (M.1 121), .int (M.1 122), .int (M.1 123), .int (M.1 124), .long (M.2.1 107), .int (M.1 125), .ref (A 29), .ref (A 30), .ref (A 31)]))] H := hP
        have hD : va_D AA [(A 20, .inr (10, [.int (p6.2), .ref (A 21), .ref (A 22), .ref (A 23), .ref (A 24), .ref (A 25), .int (M.1 101), .ref (A 26), .ref (A 27), .ref (A 28), .int (M.1 102), .long (M.2.1 100), .int (M.1 103), .int (M.1 104), .int (M.1 105), .int (M.1 106), .int a2, .int (M.1 108), .long (M.2.1 101), .long (M.2.1 102), .long (M.2.1 103), .int (M.1 109), .int (M.1 110), .int (M.1 111), .int (M.1 112), .int (M.1 113), .long (M.2.1 104), .long (M.2.1 105), .long (M.2.1 106), .int (M.1 114), .int (M.1 115), .int (M.1 116), .int (M.1 117), .int (M.1 118), .int (M.1 119), .int (M.1 120), .int (M.1 121), .int (M.1 122), .int (M.1 123), .int (M.1 124), .long (M.2.1 107), .int (M.1 125), .ref (A 29), .ref (A 30), .ref (A 31)]))] := hD
        refine lv_goto (tgt := 55) hx hb d_R_fail_47 rfl ?_
        have hP9 := hP.sub (ws' := [(A 20, xc20 Z A (ap_R_fail M ((p6.2), (M.1 108), a2)))]) [0] rfl
        have hD9 := hD.sub (ws' := [(A 20, xc20 Z A (ap_R_fail M ((p6.2), (M.1 108), a2)))]) [0] (by decide) rfl
        exact W.vret hx hb hr (fun t ht hW => ⟨⟨((p6.2), (M.1 108), a2), rfl, (by rw [F_R_fail, ← hz1, F_R_fail_k1, ← hj2, F_R_fail_k4, ← hu4, F_R_fail_k5, if_pos h7, if_pos h8]), xE_at hP9 hK hD9 ht hW⟩, hS.F ht⟩) hS.2.2 d_R_fail_55
    · have hP9 := hP.sub (ws' := [(A 20, xc20 Z A (ap_R_fail M ((p6.2), (M.1 108), (M.1 107))))]) [0] rfl
      have hD9 := hD.sub (ws' := [(A 20, xc20 Z A (ap_R_fail M ((p6.2), (M.1 108), (M.1 107))))]) [0] (by decide) rfl
      exact W.vret hx hb hr (fun t ht hW => ⟨⟨((p6.2), (M.1 108), (M.1 107)), rfl, (by rw [F_R_fail, ← hz1, F_R_fail_k1, ← hj2, F_R_fail_k4, ← hu4, F_R_fail_k5, if_neg h7]), xE_at hP9 hK hD9 ht hW⟩, hS.F ht⟩) hS.2.2 d_R_fail_37
abbrev bc_R_power : ByteArray := prog_12_method_18_code
def y_R_power : MethodName := ⟨"CentrifugeUnitModel", "power", "(Z)V"⟩
theorem d_R_power_0 : decode bc_R_power 0 = .ok (.aload_n 0, 1) := by decide +kernel
theorem d_R_power_1 : decode bc_R_power 1 = .ok (.iload_n 1, 1) := by decide +kernel
theorem d_R_power_2 : decode bc_R_power 2 = .ok (.aload_n 0, 1) := by decide +kernel
theorem d_R_power_3 : decode bc_R_power 3 = .ok (.getfield 45, 3) := by decide +kernel
theorem d_R_power_6 : decode bc_R_power 6 = .ok (.if_icmp .ne 7, 3) := by decide +kernel
theorem d_R_power_9 : decode bc_R_power 9 = .ok (.iconst 1, 1) := by decide +kernel
theorem d_R_power_10 : decode bc_R_power 10 = .ok (.goto 4, 3) := by decide +kernel
theorem d_R_power_13 : decode bc_R_power 13 = .ok (.iconst 0, 1) := by decide +kernel
theorem d_R_power_14 : decode bc_R_power 14 = .ok (.iconst 0, 1) := by decide +kernel
theorem d_R_power_15 : decode bc_R_power 15 = .ok (.invokevirtual 98, 3) := by decide +kernel
theorem d_R_power_18 : decode bc_R_power 18 = .ok (.ifCond .eq 4, 3) := by decide +kernel
theorem d_R_power_21 : decode bc_R_power 21 = .ok (.return_, 1) := by decide +kernel
theorem d_R_power_22 : decode bc_R_power 22 = .ok (.aload_n 0, 1) := by decide +kernel
theorem d_R_power_23 : decode bc_R_power 23 = .ok (.iload_n 1, 1) := by decide +kernel
theorem d_R_power_24 : decode bc_R_power 24 = .ok (.putfield 45, 3) := by decide +kernel
theorem d_R_power_27 : decode bc_R_power 27 = .ok (.aload_n 0, 1) := by decide +kernel
theorem d_R_power_28 : decode bc_R_power 28 = .ok (.iconst 0, 1) := by decide +kernel
theorem d_R_power_29 : decode bc_R_power 29 = .ok (.putfield 74, 3) := by decide +kernel
theorem d_R_power_32 : decode bc_R_power 32 = .ok (.aload_n 0, 1) := by decide +kernel
theorem d_R_power_33 : decode bc_R_power 33 = .ok (.iconst 0, 1) := by decide +kernel
theorem d_R_power_34 : decode bc_R_power 34 = .ok (.putfield 165, 3) := by decide +kernel
theorem d_R_power_37 : decode bc_R_power 37 = .ok (.aload_n 0, 1) := by decide +kernel
theorem d_R_power_38 : decode bc_R_power 38 = .ok (.iconst 0, 1) := by decide +kernel
theorem d_R_power_39 : decode bc_R_power 39 = .ok (.putfield 168, 3) := by decide +kernel
theorem d_R_power_42 : decode bc_R_power 42 = .ok (.aload_n 0, 1) := by decide +kernel
theorem d_R_power_43 : decode bc_R_power 43 = .ok (.iconst 0, 1) := by decide +kernel
theorem d_R_power_44 : decode bc_R_power 44 = .ok (.putfield 155, 3) := by decide +kernel
theorem d_R_power_47 : decode bc_R_power 47 = .ok (.aload_n 0, 1) := by decide +kernel
theorem d_R_power_48 : decode bc_R_power 48 = .ok (.iconst 0, 1) := by decide +kernel
theorem d_R_power_49 : decode bc_R_power 49 = .ok (.putfield 171, 3) := by decide +kernel
theorem d_R_power_52 : decode bc_R_power 52 = .ok (.aload_n 0, 1) := by decide +kernel
theorem d_R_power_53 : decode bc_R_power 53 = .ok (.iconst 0, 1) := by decide +kernel
theorem d_R_power_54 : decode bc_R_power 54 = .ok (.putfield 174, 3) := by decide +kernel
theorem d_R_power_57 : decode bc_R_power 57 = .ok (.aload_n 0, 1) := by decide +kernel
theorem d_R_power_58 : decode bc_R_power 58 = .ok (.iconst 0, 1) := by decide +kernel
theorem d_R_power_59 : decode bc_R_power 59 = .ok (.putfield 177, 3) := by decide +kernel
theorem d_R_power_62 : decode bc_R_power 62 = .ok (.iload_n 1, 1) := by decide +kernel
theorem d_R_power_63 : decode bc_R_power 63 = .ok (.ifCond .eq 10, 3) := by decide +kernel
theorem d_R_power_66 : decode bc_R_power 66 = .ok (.aload_n 0, 1) := by decide +kernel
theorem d_R_power_67 : decode bc_R_power 67 = .ok (.getfield 95, 3) := by decide +kernel
theorem d_R_power_70 : decode bc_R_power 70 = .ok (.ifCond .ne 4, 3) := by decide +kernel
theorem d_R_power_73 : decode bc_R_power 73 = .ok (.return_, 1) := by decide +kernel
theorem d_R_power_74 : decode bc_R_power 74 = .ok (.aload_n 0, 1) := by decide +kernel
theorem d_R_power_75 : decode bc_R_power 75 = .ok (.iconst 3, 1) := by decide +kernel
theorem d_R_power_76 : decode bc_R_power 76 = .ok (.putfield 95, 3) := by decide +kernel
theorem d_R_power_79 : decode bc_R_power 79 = .ok (.aload_n 0, 1) := by decide +kernel
theorem d_R_power_80 : decode bc_R_power 80 = .ok (.bipush 12, 2) := by decide +kernel
theorem d_R_power_82 : decode bc_R_power 82 = .ok (.putfield 127, 3) := by decide +kernel
theorem d_R_power_85 : decode bc_R_power 85 = .ok (.return_, 1) := by decide +kernel
abbrev ap_R_power (M : XM) (u : (Int32 × Int32 × Int32 × Int32 × Int32 × Int32 × Int32 × Int32 × Int32 × Int32 × Int32)) : XM := ((va_up (va_up (va_up (va_up (va_up (va_up (va_up (va_up (va_up (va_up (va_up M.1 100 (u.1)) 109 (u.2.1)) 118 (u.2.2.1)) 119 (u.2.2.2.1)) 120 (u.2.2.2.2.1)) 106 (u.2.2.2.2.2.1)) 103 (u.2.2.2.2.2.2.1)) 104 (u.2.2.2.2.2.2.2.1)) 105 (u.2.2.2.2.2.2.2.2.1)) 110 (u.2.2.2.2.2.2.2.2.2.1)) 111 (u.2.2.2.2.2.2.2.2.2.2)), M.2)
def F_R_power_k3 (M : XM) (a1 : Int32) (j1 : Int32) (p5 : Int32 × Int32) : (Int32 × Int32 × Int32 × Int32 × Int32 × Int32 × Int32 × Int32 × Int32 × Int32 × Int32) := (if p5.1 = 0 then (if a1 = 0 then ((p5.2), a1, 0, 0, 0, 0, 0, 0, 0, (M.1 110), (M.1 111)) else (if (M.1 110) = 0 then ((p5.2), a1, 0, 0, 0, 0, 0, 0, 0, (M.1 110), (M.1 111)) else ((p5.2), a1, 0, 0, 0, 0, 0, 0, 0, 3, 12))) else ((p5.2), (M.1 109), (M.1 118), (M.1 119), (M.1 120), (M.1 106), (M.1 103), (M.1 104), (M.1 105), (M.1 110), (M.1 111)))
def F_R_power_k2 (M : XM) (a1 : Int32) (j1 : Int32) : (Int32 × Int32 × Int32 × Int32 × Int32 × Int32 × Int32 × Int32 × Int32 × Int32 × Int32) := (F_R_power_k3 M a1 j1 (F_R_throwing M j1 0))
def F_R_power_j1 (M : XM) (a1 : Int32) : Int32 := (if a1 = (M.1 109) then 1 else 0)
def F_R_power (M : XM) (a1 : Int32) : (Int32 × Int32 × Int32 × Int32 × Int32 × Int32 × Int32 × Int32 × Int32 × Int32 × Int32) := (F_R_power_k2 M a1 (F_R_power_j1 M a1))
set_option maxHeartbeats 4000000 in
set_option maxRecDepth 100000 in
theorem c_R_power (l : Launch) (dC : Nat → ClassId) (dI : Nat → Nat → Nat) (Z : Nat → ClassId) (A : Nat → Nat) (sz : Nat) (M : XM) (a1 : Int32) (hb1 : a1 = 0 ∨ a1 = 1) : Met l y_R_power (.code y_R_power bc_R_power 2 none :: xw) ({ frames := 1, cells := 0, slots := 0, locals := 22 }) (va_Pc [.ref (A 20), .int a1] (xB (dC, dI) xcl (xty Z) sz [(A 20, xc20 Z A M)])) (va_Qv (fun u : (Int32 × Int32 × Int32 × Int32 × Int32 × Int32 × Int32 × Int32 × Int32 × Int32 × Int32) => u = F_R_power M a1) (fun u => xE (dC, dI) xcl (xty Z) (va_A [(A 20, xc20 Z A M)] sz) [(A 20, xc20 Z A (ap_R_power M u))]) (va_A [(A 20, xc20 Z A M)] sz)) 0 0 (va_A [(A 20, xc20 Z A M)] sz) := by
  refine Met.ofW (cc := bc_R_power) (maxL := 2) (ret := none) (by decide) rfl ?_
  intro p e s m args below meth c s₁ B hml hv
  obtain ⟨rfl, hsz, hP, hK, hD0, hq⟩ := hv
  have hx := B.exec
  have hb := B.bytes
  have hr := B.returns
  have hts := atoms_spec (ws := (.code y_R_power bc_R_power 2 none :: xw)) B.pre
  have htt : ∀ w ∈ xw, w.before _ s = true := fun w h => hts w (List.mem_cons_of_mem _ h)
  have hown : s.vm.findClass "CentrifugeUnitModel" = some m.cls := findClass_of_methodNamed B.named
  have hlocks := B.notSynchronized
  subst hsz
  have hD := hD0.self (sz := s.heap.size)
  generalize hAe : va_A [(A 20, xc20 Z A M)] s.heap.size = AA at hD ⊢
  have hA : ∀ q : Nat, s.heap.size ≤ q → AA q := fun q h => by rw [← hAe]; exact Or.inr h
  have hS : va_S AA s.heap s.heap [] := va_S.rf
  have hP : va_P (dC, dI) xcl [(A 20, .inr (10, [.int (M.1 100), .ref (A 21), .ref (A 22), .ref (A 23), .ref (A 24), .ref (A 25), .int (M.1 101), .ref (A 26), .ref (A 27), .ref (A 28), .int (M.1 102), .long (M.2.1 100), .int (M.1 103), .int (M.1 104), .int (M.1 105), .int (M.1 106), .int (M.1 107), .int (M.1 108), .long (M.2.1 101), .long (M.2.1 102), .long (M.2.1 103), .int (M.1 109), .int (M.1 110), .int (M.1 111), .int (M.1 112), .int (M.1 113), .long (M.2.1 104), .long (M.2.1 105), .long (M.2.1 106), .int (M.1 114), .int (M.1 115), .int (M.1 116), .int (M.1 117), .int (M.1 118), .int (M.1 119), .int (M.1 120), .int (M.1 121), .int (M.1 122), .int (M.1 123), .int (M.1 124), .long (M.2.1 107), .int (M.1 125), .ref (A 29), .ref (A 30), .ref (A 31)]))] s.heap := hP
  have hD : va_D AA [(A 20, .inr (10, [.int (M.1 100), .ref (A 21), .ref (A 22), .ref (A 23), .ref (A 24), .ref (A 25), .int (M.1 101), .ref (A 26), .ref (A 27), .ref (A 28), .int (M.1 102), .long (M.2.1 100), .int (M.1 103), .int (M.1 104), .int (M.1 105), .int (M.1 106), .int (M.1 107), .int (M.1 108), .long (M.2.1 101), .long (M.2.1 102), .long (M.2.1 103), .int (M.1 109), .int (M.1 110), .int (M.1 111), .int (M.1 112), .int (M.1 113), .long (M.2.1 104), .long (M.2.1 105), .long (M.2.1 106), .int (M.1 114), .int (M.1 115), .int (M.1 116), .int (M.1 117), .int (M.1 118), .int (M.1 119), .int (M.1 120), .int (M.1 121), .int (M.1 122), .int (M.1 123), .int (M.1 124), .long (M.2.1 107), .int (M.1 125), .ref (A 29), .ref (A 30), .ref (A 31)]))] := hD
  have hl := lv_entry ([.ref (A 20), .int a1]) (n := 2) (Nat.le_of_ble_eq_true rfl)
  rw [lg_entry_eq]
  generalize (lg_sl ([.ref (A 20), .int a1]) ++ List.replicate (2 - (lg_sl ([.ref (A 20), .int a1])).length) Slot.unset).toArray = ls at hl ⊢
  have hl : lv_has ls 2 [(0, .ref (A 20)), (1, .int a1)] := hl
  refine lv_aload_n hx hb d_R_power_0 rfl (lv_at hl 0 rfl) ?_
  refine lv_iload_n hx hb d_R_power_1 rfl (lv_at hl 1 rfl) ?_
  refine lv_aload_n hx hb d_R_power_2 rfl (lv_at hl 0 rfl) ?_
  refine va_get (D := (dC, dI)) (ci := 10) (v := .int (M.1 109)) (C := "CentrifugeUnitModel") (T := xF10) (N := 45) hx hb htt xin10 hown hK hP 0 rfl rfl 21 (by decide) (htt _ tw_800) (fun _ h9 => h9) rfl d_R_power_3 ?_
  refine xj_p 2 14 (fun q9 : Int32 => [(0, .ref (A 20)), (1, .int a1)]) (fun q9 : Int32 => [.int q9, .ref (A 20)]) (fun q9 : Int32 => q9 = F_R_power_j1 M a1) (fun hJ2 => ?_) (fun ls j1 hl hj1 => ?_)
  · refine lv_icmp_ne (tgt := 13) hx hb d_R_power_6 rfl (fun h9 => ?_) (fun h9 => ?_)
    · refine lv_iconst (v := 0) hx hb d_R_power_13 (by decide) ?_
      exact hJ2 _ 0 (lv_sub hl [0, 1] rfl) (by rw [F_R_power_j1, if_neg h9])
    · refine lv_iconst (v := 1) hx hb d_R_power_9 (by decide) ?_
      refine lv_goto (tgt := 14) hx hb d_R_power_10 rfl ?_
      exact hJ2 _ 1 (lv_sub hl [0, 1] rfl) (by rw [F_R_power_j1, if_pos h9])
  · refine lv_iconst (v := 0) hx hb d_R_power_14 (by decide) ?_
    have hPc := hP.sub (ws' := [(A 20, xc20 Z A M)]) [0] rfl
    have hDc := hD.sub (ws' := [(A 20, xc20 Z A M)]) [0] (by decide) rfl
    refine xk_i (wc := [(A 20, xc20 Z A M)]) (wr := []) (va_runV (As := [.int j1, .int 0]) (rest := []) ⟨hx, hb, hml, hown, hts⟩ (c_R_throwing l dC dI Z A _ M j1 0) (cwV 2 hts (xw_V _ tw_934 tw_936 tp_12 tw_12 tw_937) rfl rfl rfl (by decide +kernel) ⟨Nat.le_of_ble_eq_true rfl, Nat.le_of_ble_eq_true rfl⟩) ⟨xB_blind, va_recv (q0 := 0) (ci := 10) hK hP rfl rfl, fun U hU hW => ⟨rfl, xB_at hPc hK hDc hq U hU hW⟩⟩ rfl rfl hl.1 rfl (lv_room (Nat.le_of_ble_eq_true rfl)) d_R_power_15 ⟨Nat.le_of_ble_eq_true rfl, Nat.le_of_ble_eq_true rfl⟩) hP hD hS hA [0] [] rfl rfl (by decide) (by decide) (fun r4 u3 H locs hu3 hP hD hS => ?_)
    obtain ⟨p5, rfl, rfl⟩ : ∃ z : Int32 × Int32, r4 = z.1 ∧ u3 = z.2 := ⟨(r4, u3), rfl, rfl⟩
    replace hu3 : p5 = (F_R_throwing M j1 0) := hu3
    have hP : va_P (dC, dI) xcl [(A 20, .inr (10, [.int (p5.2), .ref (A 21), .ref (A 22), .ref (A 23), .ref (A 24), .ref (A 25), .int (M.1 101), .ref (A 26), .ref (A 27), .ref (A 28), .int (M.1 102), .long (M.2.1 100), .int (M.1 103), .int (M.1 104), .int (M.1 105), .int (M.1 106), .int (M.1 107), .int (M.1 108), .long (M.2.1 101), .long (M.2.1 102), .long (M.2.1 103), .int (M.1 109), .int (M.1 110), .int (M.1 111), .int (M.1 112), .int (M.1 113), .long (M.2.1 104), .long (M.2.1 105), .long (M.2.1 106), .int (M.1 114), .int (M.1 115), .int (M.1 116), .int (M.1 117), .int (M.1 118), .int (M.1 119), .int (M.1 120), .int (M.1 121), .int (M.1 122), .int (M.1 123), .int (M.1 124), .long (M.2.1 107), .int (M.1 125), .ref (A 29), .ref (A 30), .ref (A 31)]))] H := hP
    have hD : va_D AA [(A 20, .inr (10, [.int (p5.2), .ref (A 21), .ref (A 22), .ref (A 23), .ref (A 24), .ref (A 25), .int (M.1 101), .ref (A 26), .ref (A 27), .ref (A 28), .int (M.1 102), .long (M.2.1 100), .int (M.1 103), .int (M.1 104), .int (M.1 105), .int (M.1 106), .int (M.1 107), .int (M.1 108), .long (M.2.1 101), .long (M.2.1 102), .long (M.2.1 103), .int (M.1 109), .int (M.1 110), .int (M.1 111), .int (M.1 112), .int (M.1 113), .long (M.2.1 104), .long (M.2.1 105), .long (M.2.1 106), .int (M.1 114), .int (M.1 115), .int (M.1 116), .int (M.1 117), .int (M.1 118), .int (M.1 119), .int (M.1 120), .int (M.1 121), .int (M.1 122), .int (M.1 123), .int (M.1 124), .long (M.2.1 107), .int (M.1 125), .ref (A 29), .ref (A 30), .ref (A 31)]))] := hD
    refine lv_if_eq (tgt := 22) hx hb d_R_power_18 rfl (fun h6 => ?_) (fun h6 => ?_)
    · refine lv_aload_n hx hb d_R_power_22 rfl (lv_at hl 0 rfl) ?_
      refine lv_iload_n hx hb d_R_power_23 rfl (lv_at hl 1 rfl) ?_
      refine va_put (D := (dC, dI)) (ci := 10) (v := .int a1) (ty := .boolean) (C := "CentrifugeUnitModel") (T := xF10) (N := 45) hx hb htt xin10 xT10 xTo10 xNm10 hown hK hP hD hS 0 rfl rfl 21 (by decide) (htt _ tw_800) (fun _ h9 => h9) rfl (by decide +kernel) (xz_nar hb1) (xz_fit hb1) (Nat.le_of_ble_eq_true rfl) d_R_power_24 (fun H locs hP hD hS => ?_)
      have hP : va_P (dC, dI) xcl [(A 20, .inr (10, [.int (p5.2), .ref (A 21), .ref (A 22), .ref (A 23), .ref (A 24), .ref (A 25), .int (M.1 101), .ref (A 26), .ref (A 27), .ref (A 28), .int (M.1 102), .long (M.2.1 100), .int (M.1 103), .int (M.1 104), .int (M.1 105), .int (M.1 106), .int (M.1 107), .int (M.1 108), .long (M.2.1 101), .long (M.2.1 102), .long (M.2.1 103), .int a1, .int (M.1 110), .int (M.1 111), .int (M.1 112), .int (M.1 113), .long (M.2.1 104), .long (M.2.1 105), .long (M.2.1 106), .int (M.1 114), .int (M.1 115), .int (M.1 116), .int (M.1 117), .int (M.1 118), .int (M.1 119), .int (M.1 120), .int (M.1 121), .int (M.1 122), .int (M.1 123), .int (M.1 124), .long (M.2.1 107), .int (M.1 125), .ref (A 29), .ref (A 30), .ref (A 31)]))] H := hP
      have hD : va_D AA [(A 20, .inr (10, [.int (p5.2), .ref (A 21), .ref (A 22), .ref (A 23), .ref (A 24), .ref (A 25), .int (M.1 101), .ref (A 26), .ref (A 27), .ref (A 28), .int (M.1 102), .long (M.2.1 100), .int (M.1 103), .int (M.1 104), .int (M.1 105), .int (M.1 106), .int (M.1 107), .int (M.1 108), .long (M.2.1 101), .long (M.2.1 102), .long (M.2.1 103), .int a1, .int (M.1 110), .int (M.1 111), .int (M.1 112), .int (M.1 113), .long (M.2.1 104), .long (M.2.1 105), .long (M.2.1 106), .int (M.1 114), .int (M.1 115), .int (M.1 116), .int (M.1 117), .int (M.1 118), .int (M.1 119), .int (M.1 120), .int (M.1 121), .int (M.1 122), .int (M.1 123), .int (M.1 124), .long (M.2.1 107), .int (M.1 125), .ref (A 29), .ref (A 30), .ref (A 31)]))] := hD
      refine lv_aload_n hx hb d_R_power_27 rfl (lv_at hl 0 rfl) ?_
      refine lv_iconst (v := 0) hx hb d_R_power_28 (by decide) ?_
      refine va_put (D := (dC, dI)) (ci := 10) (v := .int 0) (ty := .int) (C := "CentrifugeUnitModel") (T := xF10) (N := 45) hx hb htt xin10 xT10 xTo10 xNm10 hown hK hP hD hS 0 rfl rfl 33 (by decide) (htt _ tw_812) (fun _ h9 => h9) rfl (by decide +kernel) rfl rfl (Nat.le_of_ble_eq_true rfl) d_R_power_29 (fun H locs hP hD hS => ?_)
      have hP : va_P (dC, dI) xcl [(A 20, .inr (10, [.int (p5.2), .ref (A 21), .ref (A 22), .ref (A 23), .ref (A 24), .ref (A 25), .int (M.1 101), .ref (A 26), .ref (A 27), .ref (A 28), .int (M.1 102), .long (M.2.1 100), .int (M.1 103), .int (M.1 104), .int (M.1 105), .int (M.1 106), .int (M.1 107), .int (M.1 108), .long (M.2.1 101), .long (M.2.1 102), .long (M.2.1 103), .int a1, .int (M.1 110), .int (M.1 111), .int (M.1 112), .int (M.1 113), .long (M.2.1 104), .long (M.2.1 105), .long (M.2.1 106), .int (M.1 114), .int (M.1 115), .int (M.1 116), .int (M.1 117), .int 0, .int (M.1 119), .int (M.1 120), .int (M.1 121), .int (M.1 122), .int (M.1 123), .int (M.1 124), .long (M.2.1 107), .int (M.1 125), .ref (A 29), .ref (A 30), .ref (A 31)]))] H := hP
      have hD : va_D AA [(A 20, .inr (10, [.int (p5.2), .ref (A 21), .ref (A 22), .ref (A 23), .ref (A 24), .ref (A 25), .int (M.1 101), .ref (A 26), .ref (A 27), .ref (A 28), .int (M.1 102), .long (M.2.1 100), .int (M.1 103), .int (M.1 104), .int (M.1 105), .int (M.1 106), .int (M.1 107), .int (M.1 108), .long (M.2.1 101), .long (M.2.1 102), .long (M.2.1 103), .int a1, .int (M.1 110), .int (M.1 111), .int (M.1 112), .int (M.1 113), .long (M.2.1 104), .long (M.2.1 105), .long (M.2.1 106), .int (M.1 114), .int (M.1 115), .int (M.1 116), .int (M.1 117), .int 0, .int (M.1 119), .int (M.1 120), .int (M.1 121), .int (M.1 122), .int (M.1 123), .int (M.1 124), .long (M.2.1 107), .int (M.1 125), .ref (A 29), .ref (A 30), .ref (A 31)]))] := hD
      refine lv_aload_n hx hb d_R_power_32 rfl (lv_at hl 0 rfl) ?_
      refine lv_iconst (v := 0) hx hb d_R_power_33 (by decide) ?_
      refine va_put (D := (dC, dI)) (ci := 10) (v := .int 0) (ty := .int) (C := "CentrifugeUnitModel") (T := xF10) (N := 45) hx hb htt xin10 xT10 xTo10 xNm10 hown hK hP hD hS 0 rfl rfl 34 (by decide) (htt _ tw_813) (fun _ h9 => h9) rfl (by decide +kernel) rfl rfl (Nat.le_of_ble_eq_true rfl) d_R_power_34 (fun H locs hP hD hS => ?_)
      have hP : va_P (dC, dI) xcl [(A 20, .inr (10, [.int (p5.2), .ref (A 21), .ref (A 22), .ref (A 23), .ref (A 24), .ref (A 25), .int (M.1 101), .ref (A 26), .ref (A 27), .ref (A 28), .int (M.1 102), .long (M.2.1 100), .int (M.1 103), .int (M.1 104), .int (M.1 105), .int (M.1 106), .int (M.1 107), .int (M.1 108), .long (M.2.1 101), .long (M.2.1 102), .long (M.2.1 103), .int a1, .int (M.1 110), .int (M.1 111), .int (M.1 112), .int (M.1 113), .long (M.2.1 104), .long (M.2.1 105), .long (M.2.1 106), .int (M.1 114), .int (M.1 115), .int (M.1 116), .int (M.1 117), .int 0, .int 0, .int (M.1 120), .int (M.1 121), .int (M.1 122), .int (M.1 123), .int (M.1 124), .long (M.2.1 107), .int (M.1 125), .ref (A 29), .ref (A 30), .ref (A 31)]))] H := hP
      have hD : va_D AA [(A 20, .inr (10, [.int (p5.2), .ref (A 21), .ref (A 22), .ref (A 23), .ref (A 24), .ref (A 25), .int (M.1 101), .ref (A 26), .ref (A 27), .ref (A 28), .int (M.1 102), .long (M.2.1 100), .int (M.1 103), .int (M.1 104), .int (M.1 105), .int (M.1 106), .int (M.1 107), .int (M.1 108), .long (M.2.1 101), .long (M.2.1 102), .long (M.2.1 103), .int a1, .int (M.1 110), .int (M.1 111), .int (M.1 112), .int (M.1 113), .long (M.2.1 104), .long (M.2.1 105), .long (M.2.1 106), .int (M.1 114), .int (M.1 115), .int (M.1 116), .int (M.1 117), .int 0, .int 0, .int (M.1 120), .int (M.1 121), .int (M.1 122), .int (M.1 123), .int (M.1 124), .long (M.2.1 107), .int (M.1 125), .ref (A 29), .ref (A 30), .ref (A 31)]))] := hD
      refine lv_aload_n hx hb d_R_power_37 rfl (lv_at hl 0 rfl) ?_
      refine lv_iconst (v := 0) hx hb d_R_power_38 (by decide) ?_
      refine va_put (D := (dC, dI)) (ci := 10) (v := .int 0) (ty := .int) (C := "CentrifugeUnitModel") (T := xF10) (N := 45) hx hb htt xin10 xT10 xTo10 xNm10 hown hK hP hD hS 0 rfl rfl 35 (by decide) (htt _ tw_814) (fun _ h9 => h9) rfl (by decide +kernel) rfl rfl (Nat.le_of_ble_eq_true rfl) d_R_power_39 (fun H locs hP hD hS => ?_)
      have hP : va_P (dC, dI) xcl [(A 20, .inr (10, [.int (p5.2), .ref (A 21), .ref (A 22), .ref (A 23), .ref (A 24), .ref (A 25), .int (M.1 101), .ref (A 26), .ref (A 27), .ref (A 28), .int (M.1 102), .long (M.2.1 100), .int (M.1 103), .int (M.1 104), .int (M.1 105), .int (M.1 106), .int (M.1 107), .int (M.1 108), .long (M.2.1 101), .long (M.2.1 102), .long (M.2.1 103), .int a1, .int (M.1 110), .int (M.1 111), .int (M.1 112), .int (M.1 113), .long (M.2.1 104), .long (M.2.1 105), .long (M.2.1 106), .int (M.1 114), .int (M.1 115), .int (M.1 116), .int (M.1 117), .int 0, .int 0, .int 0, .int (M.1 121), .int (M.1 122), .int (M.1 123), .int (M.1 124), .long (M.2.1 107), .int (M.1 125), .ref (A 29), .ref (A 30), .ref (A 31)]))] H := hP
      have hD : va_D AA [(A 20, .inr (10, [.int (p5.2), .ref (A 21), .ref (A 22), .ref (A 23), .ref (A 24), .ref (A 25), .int (M.1 101), .ref (A 26), .ref (A 27), .ref (A 28), .int (M.1 102), .long (M.2.1 100), .int (M.1 103), .int (M.1 104), .int (M.1 105), .int (M.1 106), .int (M.1 107), .int (M.1 108), .long (M.2.1 101), .long (M.2.1 102), .long (M.2.1 103), .int a1, .int (M.1 110), .int (M.1 111), .int (M.1 112), .int (M.1 113), .long (M.2.1 104), .long (M.2.1 105), .long (M.2.1 106), .int (M.1 114), .int (M.1 115), .int (M.1 116), .int (M.1 117), .int 0, .int 0, .int 0, .int (M.1 121), .int (M.1 122), .int (M.1 123), .int (M.1 124), .long (M.2.1 107), .int (M.1 125), .ref (A 29), .ref (A 30), .ref (A 31)]))] := hD
      refine lv_aload_n hx hb d_R_power_42 rfl (lv_at hl 0 rfl) ?_
      refine lv_iconst (v := 0) hx hb d_R_power_43 (by decide) ?_
      refine va_put (D := (dC, dI)) (ci := 10) (v := .int 0) (ty := .int) (C := "CentrifugeUnitModel") (T := xF10) (N := 45) hx hb htt xin10 xT10 xTo10 xNm10 hown hK hP hD hS 0 rfl rfl 15 (by decide) (htt _ tw_794) (fun _ h9 => h9) rfl (by decide +kernel) rfl rfl (Nat.le_of_ble_eq_true rfl) d_R_power_44 (fun H locs hP hD hS => ?_)
      have hP : va_P (dC, dI) xcl [(A 20, .inr (10, [.int (p5.2), .ref (A 21), .ref (A 22), .ref (A 23), .ref (A 24), .ref (A 25), .int (M.1 101), .ref (A 26), .ref (A 27), .ref (A 28), .int (M.1 102), .long (M.2.1 100), .int (M.1 103), .int (M.1 104), .int (M.1 105), .int 0, .int (M.1 107), .int (M.1 108), .long (M.2.1 101), .long (M.2.1 102), .long (M.2.1 103), .int a1, .int (M.1 110), .int (M.1 111), .int (M.1 112), .int (M.1 113), .long (M.2.1 104), .long (M.2.1 105), .long (M.2.1 106), .int (M.1 114), .int (M.1 115), .int (M.1 116), .int (M.1 117), .int 0, .int 0, .int 0, .int (M.1 121), .int (M.1 122), .int (M.1 123), .int (M.1 124), .long (M.2.1 107), .int (M.1 125), .ref (A 29), .ref (A 30), .ref (A 31)]))] H := hP
      have hD : va_D AA [(A 20, .inr (10, [.int (p5.2), .ref (A 21), .ref (A 22), .ref (A 23), .ref (A 24), .ref (A 25), .int (M.1 101), .ref (A 26), .ref (A 27), .ref (A 28), .int (M.1 102), .long (M.2.1 100), .int (M.1 103), .int (M.1 104), .int (M.1 105), .int 0, .int (M.1 107), .int (M.1 108), .long (M.2.1 101), .long (M.2.1 102), .long (M.2.1 103), .int a1, .int (M.1 110), .int (M.1 111), .int (M.1 112), .int (M.1 113), .long (M.2.1 104), .long (M.2.1 105), .long (M.2.1 106), .int (M.1 114), .int (M.1 115), .int (M.1 116), .int (M.1 117), .int 0, .int 0, .int 0, .int (M.1 121), .int (M.1 122), .int (M.1 123), .int (M.1 124), .long (M.2.1 107), .int (M.1 125), .ref (A 29), .ref (A 30), .ref (A 31)]))] := hD
      refine lv_aload_n hx hb d_R_power_47 rfl (lv_at hl 0 rfl) ?_
      refine lv_iconst (v := 0) hx hb d_R_power_48 (by decide) ?_
      refine va_put (D := (dC, dI)) (ci := 10) (v := .int 0) (ty := .int) (C := "CentrifugeUnitModel") (T := xF10) (N := 45) hx hb htt xin10 xT10 xTo10 xNm10 hown hK hP hD hS 0 rfl rfl 12 (by decide) (htt _ tw_791) (fun _ h9 => h9) rfl (by decide +kernel) rfl rfl (Nat.le_of_ble_eq_true rfl) d_R_power_49 (fun H locs hP hD hS => ?_)
      have hP : va_P (dC, dI) xcl [(A 20, .inr (10, [.int (p5.2), .ref (A 21), .ref (A 22), .ref (A 23), .ref (A 24), .ref (A 25), .int (M.1 101), .ref (A 26), .ref (A 27), .ref (A 28), .int (M.1 102), .long (M.2.1 100), .int 0, .int (M.1 104), .int (M.1 105), .int 0, .int (M.1 107), .int (M.1 108), .long (M.2.1 101), .long (M.2.1 102), .long (M.2.1 103), .int a1, .int (M.1 110), .int (M.1 111), .int (M.1 112), .int (M.1 113), .long (M.2.1 104), .long (M.2.1 105), .long (M.2.1 106), .int (M.1 114), .int (M.1 115), .int (M.1 116), .int (M.1 117), .int 0, .int 0, .int 0, .int (M.1 121), .int (M.1 122), .int (M.1 123), .int (M.1 124), .long (M.2.1 107), .int (M.1 125), .ref (A 29), .ref (A 30), .ref (A 31)]))] H := hP
      have hD : va_D AA [(A 20, .inr (10, [.int (p5.2), .ref (A 21), .ref (A 22), .ref (A 23), .ref (A 24), .ref (A 25), .int (M.1 101), .ref (A 26), .ref (A 27), .ref (A 28), .int (M.1 102), .long (M.2.1 100), .int 0, .int (M.1 104), .int (M.1 105), .int 0, .int (M.1 107), .int (M.1 108), .long (M.2.1 101), .long (M.2.1 102), .long (M.2.1 103), .int a1, .int (M.1 110), .int (M.1 111), .int (M.1 112), .int (M.1 113), .long (M.2.1 104), .long (M.2.1 105), .long (M.2.1 106), .int (M.1 114), .int (M.1 115), .int (M.1 116), .int (M.1 117), .int 0, .int 0, .int 0, .int (M.1 121), .int (M.1 122), .int (M.1 123), .int (M.1 124), .long (M.2.1 107), .int (M.1 125), .ref (A 29), .ref (A 30), .ref (A 31)]))] := hD
      refine lv_aload_n hx hb d_R_power_52 rfl (lv_at hl 0 rfl) ?_
      refine lv_iconst (v := 0) hx hb d_R_power_53 (by decide) ?_
      refine va_put (D := (dC, dI)) (ci := 10) (v := .int 0) (ty := .int) (C := "CentrifugeUnitModel") (T := xF10) (N := 45) hx hb htt xin10 xT10 xTo10 xNm10 hown hK hP hD hS 0 rfl rfl 13 (by decide) (htt _ tw_792) (fun _ h9 => h9) rfl (by decide +kernel) rfl rfl (Nat.le_of_ble_eq_true rfl) d_R_power_54 (fun H locs hP hD hS => ?_)
      have hP : va_P (dC, dI) xcl [(A 20, .inr (10, [.int (p5.2), .ref (A 21), .ref (A 22), .ref (A 23), .ref (A 24), .ref (A 25), .int (M.1 101), .ref (A 26), .ref (A 27), .ref (A 28), .int (M.1 102), .long (M.2.1 100), .int 0, .int 0, .int (M.1 105), .int 0, .int (M.1 107), .int (M.1 108), .long (M.2.1 101), .long (M.2.1 102), .long (M.2.1 103), .int a1, .int (M.1 110), .int (M.1 111), .int (M.1 112), .int (M.1 113), .long (M.2.1 104), .long (M.2.1 105), .long (M.2.1 106), .int (M.1 114), .int (M.1 115), .int (M.1 116), .int (M.1 117), .int 0, .int 0, .int 0, .int (M.1 121), .int (M.1 122), .int (M.1 123), .int (M.1 124), .long (M.2.1 107), .int (M.1 125), .ref (A 29), .ref (A 30), .ref (A 31)]))] H := hP
      have hD : va_D AA [(A 20, .inr (10, [.int (p5.2), .ref (A 21), .ref (A 22), .ref (A 23), .ref (A 24), .ref (A 25), .int (M.1 101), .ref (A 26), .ref (A 27), .ref (A 28), .int (M.1 102), .long (M.2.1 100), .int 0, .int 0, .int (M.1 105), .int 0, .int (M.1 107), .int (M.1 108), .long (M.2.1 101), .long (M.2.1 102), .long (M.2.1 103), .int a1, .int (M.1 110), .int (M.1 111), .int (M.1 112), .int (M.1 113), .long (M.2.1 104), .long (M.2.1 105), .long (M.2.1 106), .int (M.1 114), .int (M.1 115), .int (M.1 116), .int (M.1 117), .int 0, .int 0, .int 0, .int (M.1 121), .int (M.1 122), .int (M.1 123), .int (M.1 124), .long (M.2.1 107), .int (M.1 125), .ref (A 29), .ref (A 30), .ref (A 31)]))] := hD
      refine lv_aload_n hx hb d_R_power_57 rfl (lv_at hl 0 rfl) ?_
      refine lv_iconst (v := 0) hx hb d_R_power_58 (by decide) ?_
      refine va_put (D := (dC, dI)) (ci := 10) (v := .int 0) (ty := .boolean) (C := "CentrifugeUnitModel") (T := xF10) (N := 45) hx hb htt xin10 xT10 xTo10 xNm10 hown hK hP hD hS 0 rfl rfl 14 (by decide) (htt _ tw_793) (fun _ h9 => h9) rfl (by decide +kernel) rfl rfl (Nat.le_of_ble_eq_true rfl) d_R_power_59 (fun H locs hP hD hS => ?_)
      have hP : va_P (dC, dI) xcl [(A 20, .inr (10, [.int (p5.2), .ref (A 21), .ref (A 22), .ref (A 23), .ref (A 24), .ref (A 25), .int (M.1 101), .ref (A 26), .ref (A 27), .ref (A 28), .int (M.1 102), .long (M.2.1 100), .int 0, .int 0, .int 0, .int 0, .int (M.1 107), .int (M.1 108), .long (M.2.1 101), .long (M.2.1 102), .long (M.2.1 103), .int a1, .int (M.1 110), .int (M.1 111), .int (M.1 112), .int (M.1 113), .long (M.2.1 104), .long (M.2.1 105), .long (M.2.1 106), .int (M.1 114), .int (M.1 115), .int (M.1 116), .int (M.1 117), .int 0, .int 0, .int 0, .int (M.1 121), .int (M.1 122), .int (M.1 123), .int (M.1 124), .long (M.2.1 107), .int (M.1 125), .ref (A 29), .ref (A 30), .ref (A 31)]))] H := hP
      have hD : va_D AA [(A 20, .inr (10, [.int (p5.2), .ref (A 21), .ref (A 22), .ref (A 23), .ref (A 24), .ref (A 25), .int (M.1 101), .ref (A 26), .ref (A 27), .ref (A 28), .int (M.1 102), .long (M.2.1 100), .int 0, .int 0, .int 0, .int 0, .int (M.1 107), .int (M.1 108), .long (M.2.1 101), .long (M.2.1 102), .long (M.2.1 103), .int a1, .int (M.1 110), .int (M.1 111), .int (M.1 112), .int (M.1 113), .long (M.2.1 104), .long (M.2.1 105), .long (M.2.1 106), .int (M.1 114), .int (M.1 115), .int (M.1 116), .int (M.1 117), .int 0, .int 0, .int 0, .int (M.1 121), .int (M.1 122), .int (M.1 123), .int (M.1 124), .long (M.2.1 107), .int (M.1 125), .ref (A 29), .ref (A 30), .ref (A 31)]))] := hD
      refine lv_iload_n hx hb d_R_power_62 rfl (lv_at hl 1 rfl) ?_
      refine lv_if_eq (tgt := 73) hx hb d_R_power_63 rfl (fun h7 => ?_) (fun h7 => ?_)
      · have hP9 := hP.sub (ws' := [(A 20, xc20 Z A (ap_R_power M ((p5.2), a1, 0, 0, 0, 0, 0, 0, 0, (M.1 110), (M.1 111))))]) [0] rfl
        have hD9 := hD.sub (ws' := [(A 20, xc20 Z A (ap_R_power M ((p5.2), a1, 0, 0, 0, 0, 0, 0, 0, (M.1 110), (M.1 111))))]) [0] (by decide) rfl
        exact W.vret hx hb hr (fun t ht hW => ⟨⟨((p5.2), a1, 0, 0, 0, 0, 0, 0, 0, (M.1 110), (M.1 111)), rfl, (by rw [F_R_power, ← hj1, F_R_power_k2, ← hu3, F_R_power_k3, if_pos h6, if_pos h7]), xE_at hP9 hK hD9 ht hW⟩, hS.F ht⟩) hS.2.2 d_R_power_73
      · refine lv_aload_n hx hb d_R_power_66 rfl (lv_at hl 0 rfl) ?_
        refine va_get (D := (dC, dI)) (ci := 10) (v := .int (M.1 110)) (C := "CentrifugeUnitModel") (T := xF10) (N := 45) hx hb htt xin10 hown hK hP 0 rfl rfl 22 (by decide) (htt _ tw_801) (fun _ h9 => h9) rfl d_R_power_67 ?_
        refine lv_if_ne (tgt := 74) hx hb d_R_power_70 rfl (fun h8 => ?_) (fun h8 => ?_)
        · refine lv_aload_n hx hb d_R_power_74 rfl (lv_at hl 0 rfl) ?_
          refine lv_iconst (v := 3) hx hb d_R_power_75 (by decide) ?_
          refine va_put (D := (dC, dI)) (ci := 10) (v := .int 3) (ty := .int) (C := "CentrifugeUnitModel") (T := xF10) (N := 45) hx hb htt xin10 xT10 xTo10 xNm10 hown hK hP hD hS 0 rfl rfl 22 (by decide) (htt _ tw_801) (fun _ h9 => h9) rfl (by decide +kernel) rfl rfl (Nat.le_of_ble_eq_true rfl) d_R_power_76 (fun H locs hP hD hS => ?_)
          have hP : va_P (dC, dI) xcl [(A 20, .inr (10, [.int (p5.2), .ref (A 21), .ref (A 22), .ref (A 23), .ref (A 24), .ref (A 25), .int (M.1 101), .ref (A 26), .ref (A 27), .ref (A 28), .int (M.1 102), .long (M.2.1 100), .int 0, .int 0, .int 0, .int 0, .int (M.1 107), .int (M.1 108), .long (M.2.1 101), .long (M.2.1 102), .long (M.2.1 103), .int a1, .int 3, .int (M.1 111), .int (M.1 112), .int (M.1 113), .long (M.2.1 104), .long (M.2.1 105), .long (M.2.1 106), .int (M.1 114), .int (M.1 115), .int (M.1 116), .int (M.1 117), .int 0, .int 0, .int 0, .int (M.1 121), .int (M.1 122), .int (M.1 123), .int (M.1 124), .long (M.2.1 107), .int (M.1 125), .ref (A 29), .ref (A 30), .ref (A 31)]))] H := hP
          have hD : va_D AA [(A 20, .inr (10, [.int (p5.2), .ref (A 21), .ref (A 22), .ref (A 23), .ref (A 24), .ref (A 25), .int (M.1 101), .ref (A 26), .ref (A 27), .ref (A 28), .int (M.1 102), .long (M.2.1 100), .int 0, .int 0, .int 0, .int 0, .int (M.1 107), .int (M.1 108), .long (M.2.1 101), .long (M.2.1 102), .long (M.2.1 103), .int a1, .int 3, .int (M.1 111), .int (M.1 112), .int (M.1 113), .long (M.2.1 104), .long (M.2.1 105), .long (M.2.1 106), .int (M.1 114), .int (M.1 115), .int (M.1 116), .int (M.1 117), .int 0, .int 0, .int 0, .int (M.1 121), .int (M.1 122), .int (M.1 123), .int (M.1 124), .long (M.2.1 107), .int (M.1 125), .ref (A 29), .ref (A 30), .ref (A 31)]))] := hD
          refine lv_aload_n hx hb d_R_power_79 rfl (lv_at hl 0 rfl) ?_
          refine lv_bipush (v := 12) hx hb d_R_power_80 (by decide) ?_
          refine va_put (D := (dC, dI)) (ci := 10) (v := .int 12) (ty := .int) (C := "CentrifugeUnitModel") (T := xF10) (N := 45) hx hb htt xin10 xT10 xTo10 xNm10 hown hK hP hD hS 0 rfl rfl 23 (by decide) (htt _ tw_802) (fun _ h9 => h9) rfl (by decide +kernel) rfl rfl (Nat.le_of_ble_eq_true rfl) d_R_power_82 (fun H locs hP hD hS => ?_)
          have hP : va_P (dC, dI) xcl [(A 20, .inr (10, [.int (p5.2), .ref (A 21), .ref (A 22), .ref (A 23), .ref (A 24), .ref (A 25), .int (M.1 101), .ref (A 26), .ref (A 27), .ref (A 28), .int (M.1 102), .long (M.2.1 100), .int 0, .int 0, .int 0, .int 0, .int (M.1 107), .int (M.1 108), .long (M.2.1 101), .long (M.2.1 102), .long (M.2.1 103), .int a1, .int 3, .int 12, .int (M.1 112), .int (M.1 113), .long (M.2.1 104), .long (M.2.1 105), .long (M.2.1 106), .int (M.1 114), .int (M.1 115), .int (M.1 116), .int (M.1 117), .int 0, .int 0, .int 0, .int (M.1 121), .int (M.1 122), .int (M.1 123), .int (M.1 124), .long (M.2.1 107), .int (M.1 125), .ref (A 29), .ref (A 30), .ref (A 31)]))] H := hP
          have hD : va_D AA [(A 20, .inr (10, [.int (p5.2), .ref (A 21), .ref (A 22), .ref (A 23), .ref (A 24), .ref (A 25), .int (M.1 101), .ref (A 26), .ref (A 27), .ref (A 28), .int (M.1 102), .long (M.2.1 100), .int 0, .int 0, .int 0, .int 0, .int (M.1 107), .int (M.1 108), .long (M.2.1 101), .long (M.2.1 102), .long (M.2.1 103), .int a1, .int 3, .int 12, .int (M.1 112), .int (M.1 113), .long (M.2.1 104), .long (M.2.1 105), .long (M.2.1 106), .int (M.1 114), .int (M.1 115), .int (M.1 116), .int (M.1 117), .int 0, .int 0, .int 0, .int (M.1 121), .int (M.1 122), .int (M.1 123), .int (M.1 124), .long (M.2.1 107), .int (M.1 125), .ref (A 29), .ref (A 30), .ref (A 31)]))] := hD
          have hP9 := hP.sub (ws' := [(A 20, xc20 Z A (ap_R_power M ((p5.2), a1, 0, 0, 0, 0, 0, 0, 0, 3, 12)))]) [0] rfl
          have hD9 := hD.sub (ws' := [(A 20, xc20 Z A (ap_R_power M ((p5.2), a1, 0, 0, 0, 0, 0, 0, 0, 3, 12)))]) [0] (by decide) rfl
          exact W.vret hx hb hr (fun t ht hW => ⟨⟨((p5.2), a1, 0, 0, 0, 0, 0, 0, 0, 3, 12), rfl, (by rw [F_R_power, ← hj1, F_R_power_k2, ← hu3, F_R_power_k3, if_pos h6, if_neg h7, if_neg h8]), xE_at hP9 hK hD9 ht hW⟩, hS.F ht⟩) hS.2.2 d_R_power_85
        · have hP9 := hP.sub (ws' := [(A 20, xc20 Z A (ap_R_power M ((p5.2), a1, 0, 0, 0, 0, 0, 0, 0, (M.1 110), (M.1 111))))]) [0] rfl
          have hD9 := hD.sub (ws' := [(A 20, xc20 Z A (ap_R_power M ((p5.2), a1, 0, 0, 0, 0, 0, 0, 0, (M.1 110), (M.1 111))))]) [0] (by decide) rfl
          exact W.vret hx hb hr (fun t ht hW => ⟨⟨((p5.2), a1, 0, 0, 0, 0, 0, 0, 0, (M.1 110), (M.1 111)), rfl, (by rw [F_R_power, ← hj1, F_R_power_k2, ← hu3, F_R_power_k3, if_pos h6, if_neg h7, if_pos h8]), xE_at hP9 hK hD9 ht hW⟩, hS.F ht⟩) hS.2.2 d_R_power_73
    · have hP9 := hP.sub (ws' := [(A 20, xc20 Z A (ap_R_power M ((p5.2), (M.1 109), (M.1 118), (M.1 119), (M.1 120), (M.1 106), (M.1 103), (M.1 104), (M.1 105), (M.1 110), (M.1 111))))]) [0] rfl
      have hD9 := hD.sub (ws' := [(A 20, xc20 Z A (ap_R_power M ((p5.2), (M.1 109), (M.1 118), (M.1 119), (M.1 120), (M.1 106), (M.1 103), (M.1 104), (M.1 105), (M.1 110), (M.1 111))))]) [0] (by decide) rfl
      exact W.vret hx hb hr (fun t ht hW => ⟨⟨((p5.2), (M.1 109), (M.1 118), (M.1 119), (M.1 120), (M.1 106), (M.1 103), (M.1 104), (M.1 105), (M.1 110), (M.1 111)), rfl, (by rw [F_R_power, ← hj1, F_R_power_k2, ← hu3, F_R_power_k3, if_neg h6]), xE_at hP9 hK hD9 ht hW⟩, hS.F ht⟩) hS.2.2 d_R_power_21
abbrev bc_R_steer : ByteArray := prog_12_method_22_code
def y_R_steer : MethodName := ⟨"CentrifugeUnitModel", "steer", "()V"⟩
theorem d_R_steer_0 : decode bc_R_steer 0 = .ok (.ldc2_w 216, 3) := by decide +kernel
theorem d_R_steer_3 : decode bc_R_steer 3 = .ok (.aload_n 0, 1) := by decide +kernel
theorem d_R_steer_4 : decode bc_R_steer 4 = .ok (.getfield 146, 3) := by decide +kernel
theorem d_R_steer_7 : decode bc_R_steer 7 = .ok (.aload_n 0, 1) := by decide +kernel
theorem d_R_steer_8 : decode bc_R_steer 8 = .ok (.getfield 195, 3) := by decide +kernel
theorem d_R_steer_11 : decode bc_R_steer 11 = .ok (.lsub, 1) := by decide +kernel
theorem d_R_steer_12 : decode bc_R_steer 12 = .ok (.ldc2_w 218, 3) := by decide +kernel
theorem d_R_steer_15 : decode bc_R_steer 15 = .ok (.ldiv, 1) := by decide +kernel
theorem d_R_steer_16 : decode bc_R_steer 16 = .ok (.ladd, 1) := by decide +kernel
theorem d_R_steer_17 : decode bc_R_steer 17 = .ok (.lstore_n 1, 1) := by decide +kernel
theorem d_R_steer_18 : decode bc_R_steer 18 = .ok (.aload_n 0, 1) := by decide +kernel
theorem d_R_steer_19 : decode bc_R_steer 19 = .ok (.aload_n 0, 1) := by decide +kernel
theorem d_R_steer_20 : decode bc_R_steer 20 = .ok (.getfield 146, 3) := by decide +kernel
theorem d_R_steer_23 : decode bc_R_steer 23 = .ok (.lconst 0, 1) := by decide +kernel
theorem d_R_steer_24 : decode bc_R_steer 24 = .ok (.lcmp, 1) := by decide +kernel
theorem d_R_steer_25 : decode bc_R_steer 25 = .ok (.ifCond .eq 9, 3) := by decide +kernel
theorem d_R_steer_28 : decode bc_R_steer 28 = .ok (.lload_n 1, 1) := by decide +kernel
theorem d_R_steer_29 : decode bc_R_steer 29 = .ok (.lconst 0, 1) := by decide +kernel
theorem d_R_steer_30 : decode bc_R_steer 30 = .ok (.lcmp, 1) := by decide +kernel
theorem d_R_steer_31 : decode bc_R_steer 31 = .ok (.ifCond .ge 7, 3) := by decide +kernel
theorem d_R_steer_34 : decode bc_R_steer 34 = .ok (.iconst 0, 1) := by decide +kernel
theorem d_R_steer_35 : decode bc_R_steer 35 = .ok (.goto 18, 3) := by decide +kernel
theorem d_R_steer_38 : decode bc_R_steer 38 = .ok (.lload_n 1, 1) := by decide +kernel
theorem d_R_steer_39 : decode bc_R_steer 39 = .ok (.ldc2_w 89, 3) := by decide +kernel
theorem d_R_steer_42 : decode bc_R_steer 42 = .ok (.lcmp, 1) := by decide +kernel
theorem d_R_steer_43 : decode bc_R_steer 43 = .ok (.ifCond .le 8, 3) := by decide +kernel
theorem d_R_steer_46 : decode bc_R_steer 46 = .ok (.bipush 100, 2) := by decide +kernel
theorem d_R_steer_48 : decode bc_R_steer 48 = .ok (.goto 5, 3) := by decide +kernel
theorem d_R_steer_51 : decode bc_R_steer 51 = .ok (.lload_n 1, 1) := by decide +kernel
theorem d_R_steer_52 : decode bc_R_steer 52 = .ok (.l2i, 1) := by decide +kernel
theorem d_R_steer_53 : decode bc_R_steer 53 = .ok (.putfield 171, 3) := by decide +kernel
theorem d_R_steer_56 : decode bc_R_steer 56 = .ok (.aload_n 0, 1) := by decide +kernel
theorem d_R_steer_57 : decode bc_R_steer 57 = .ok (.iconst 0, 1) := by decide +kernel
theorem d_R_steer_58 : decode bc_R_steer 58 = .ok (.putfield 174, 3) := by decide +kernel
theorem d_R_steer_61 : decode bc_R_steer 61 = .ok (.aload_n 0, 1) := by decide +kernel
theorem d_R_steer_62 : decode bc_R_steer 62 = .ok (.getfield 195, 3) := by decide +kernel
theorem d_R_steer_65 : decode bc_R_steer 65 = .ok (.aload_n 0, 1) := by decide +kernel
theorem d_R_steer_66 : decode bc_R_steer 66 = .ok (.getfield 146, 3) := by decide +kernel
theorem d_R_steer_69 : decode bc_R_steer 69 = .ok (.ldc2_w 198, 3) := by decide +kernel
theorem d_R_steer_72 : decode bc_R_steer 72 = .ok (.ladd, 1) := by decide +kernel
theorem d_R_steer_73 : decode bc_R_steer 73 = .ok (.lcmp, 1) := by decide +kernel
theorem d_R_steer_74 : decode bc_R_steer 74 = .ok (.ifCond .le 13, 3) := by decide +kernel
theorem d_R_steer_77 : decode bc_R_steer 77 = .ok (.aload_n 0, 1) := by decide +kernel
theorem d_R_steer_78 : decode bc_R_steer 78 = .ok (.iconst 0, 1) := by decide +kernel
theorem d_R_steer_79 : decode bc_R_steer 79 = .ok (.putfield 171, 3) := by decide +kernel
theorem d_R_steer_82 : decode bc_R_steer 82 = .ok (.aload_n 0, 1) := by decide +kernel
theorem d_R_steer_83 : decode bc_R_steer 83 = .ok (.iconst 3, 1) := by decide +kernel
theorem d_R_steer_84 : decode bc_R_steer 84 = .ok (.putfield 174, 3) := by decide +kernel
theorem d_R_steer_87 : decode bc_R_steer 87 = .ok (.return_, 1) := by decide +kernel
abbrev ap_R_steer (M : XM) (u : (Int32 × Int32)) : XM := ((va_up (va_up M.1 103 (u.1)) 104 (u.2)), M.2)
def F_R_steer_k2 (M : XM) (j1 : Int32) : (Int32 × Int32) := (if (lg_cmp (M.2.1 103) ((M.2.1 104) + 200)) ≤ 0 then (j1, 0) else (0, 3))
def F_R_steer_j1 (M : XM) : Int32 := (if (lg_cmp (M.2.1 104) 0) = 0 then 0 else (if 0 ≤ (lg_cmp (40 + (((M.2.1 104) - (M.2.1 103)) / 4)) 0) then (if (lg_cmp (40 + (((M.2.1 104) - (M.2.1 103)) / 4)) 100) ≤ 0 then ((40 + (((M.2.1 104) - (M.2.1 103)) / 4))).toInt32 else 100) else 0))
def F_R_steer (M : XM) : (Int32 × Int32) := (F_R_steer_k2 M (F_R_steer_j1 M))
set_option maxHeartbeats 4000000 in
set_option maxRecDepth 100000 in
theorem c_R_steer (l : Launch) (dC : Nat → ClassId) (dI : Nat → Nat → Nat) (Z : Nat → ClassId) (A : Nat → Nat) (sz : Nat) (M : XM) : Met l y_R_steer (.code y_R_steer bc_R_steer 3 none :: xw) ({ frames := 0, cells := 0, slots := 0, locals := 0 }) (va_Pc [.ref (A 20)] (xB (dC, dI) xcl (xty Z) sz [(A 20, xc20 Z A M)])) (va_Qv (fun u : (Int32 × Int32) => u = F_R_steer M) (fun u => xE (dC, dI) xcl (xty Z) (va_A [(A 20, xc20 Z A M)] sz) [(A 20, xc20 Z A (ap_R_steer M u))]) (va_A [(A 20, xc20 Z A M)] sz)) 0 0 (va_A [(A 20, xc20 Z A M)] sz) := by
  refine Met.ofW (cc := bc_R_steer) (maxL := 3) (ret := none) (by decide) rfl ?_
  intro p e s m args below meth c s₁ B hml hv
  obtain ⟨rfl, hsz, hP, hK, hD0, hq⟩ := hv
  have hx := B.exec
  have hb := B.bytes
  have hr := B.returns
  have hts := atoms_spec (ws := (.code y_R_steer bc_R_steer 3 none :: xw)) B.pre
  have htt : ∀ w ∈ xw, w.before _ s = true := fun w h => hts w (List.mem_cons_of_mem _ h)
  have hown : s.vm.findClass "CentrifugeUnitModel" = some m.cls := findClass_of_methodNamed B.named
  have hlocks := B.notSynchronized
  subst hsz
  have hD := hD0.self (sz := s.heap.size)
  generalize hAe : va_A [(A 20, xc20 Z A M)] s.heap.size = AA at hD ⊢
  have hA : ∀ q : Nat, s.heap.size ≤ q → AA q := fun q h => by rw [← hAe]; exact Or.inr h
  have hS : va_S AA s.heap s.heap [] := va_S.rf
  have hP : va_P (dC, dI) xcl [(A 20, .inr (10, [.int (M.1 100), .ref (A 21), .ref (A 22), .ref (A 23), .ref (A 24), .ref (A 25), .int (M.1 101), .ref (A 26), .ref (A 27), .ref (A 28), .int (M.1 102), .long (M.2.1 100), .int (M.1 103), .int (M.1 104), .int (M.1 105), .int (M.1 106), .int (M.1 107), .int (M.1 108), .long (M.2.1 101), .long (M.2.1 102), .long (M.2.1 103), .int (M.1 109), .int (M.1 110), .int (M.1 111), .int (M.1 112), .int (M.1 113), .long (M.2.1 104), .long (M.2.1 105), .long (M.2.1 106), .int (M.1 114), .int (M.1 115), .int (M.1 116), .int (M.1 117), .int (M.1 118), .int (M.1 119), .int (M.1 120), .int (M.1 121), .int (M.1 122), .int (M.1 123), .int (M.1 124), .long (M.2.1 107), .int (M.1 125), .ref (A 29), .ref (A 30), .ref (A 31)]))] s.heap := hP
  have hD : va_D AA [(A 20, .inr (10, [.int (M.1 100), .ref (A 21), .ref (A 22), .ref (A 23), .ref (A 24), .ref (A 25), .int (M.1 101), .ref (A 26), .ref (A 27), .ref (A 28), .int (M.1 102), .long (M.2.1 100), .int (M.1 103), .int (M.1 104), .int (M.1 105), .int (M.1 106), .int (M.1 107), .int (M.1 108), .long (M.2.1 101), .long (M.2.1 102), .long (M.2.1 103), .int (M.1 109), .int (M.1 110), .int (M.1 111), .int (M.1 112), .int (M.1 113), .long (M.2.1 104), .long (M.2.1 105), .long (M.2.1 106), .int (M.1 114), .int (M.1 115), .int (M.1 116), .int (M.1 117), .int (M.1 118), .int (M.1 119), .int (M.1 120), .int (M.1 121), .int (M.1 122), .int (M.1 123), .int (M.1 124), .long (M.2.1 107), .int (M.1 125), .ref (A 29), .ref (A 30), .ref (A 31)]))] := hD
  have hl := lv_entry ([.ref (A 20)]) (n := 3) (Nat.le_of_ble_eq_true rfl)
  rw [lg_entry_eq]
  generalize (lg_sl ([.ref (A 20)]) ++ List.replicate (3 - (lg_sl ([.ref (A 20)])).length) Slot.unset).toArray = ls at hl ⊢
  have hl : lv_has ls 3 [(0, .ref (A 20))] := hl
  refine lv_ldc2 (v := 40) hx hb hown (htt _ tw_1034) d_R_steer_0 ?_
  refine lv_aload_n hx hb d_R_steer_3 rfl (lv_at hl 0 rfl) ?_
  refine va_get (D := (dC, dI)) (ci := 10) (v := .long (M.2.1 104)) (C := "CentrifugeUnitModel") (T := xF10) (N := 45) hx hb htt xin10 hown hK hP 0 rfl rfl 26 (by decide) (htt _ tw_805) (fun _ h9 => h9) rfl d_R_steer_4 ?_
  refine lv_aload_n hx hb d_R_steer_7 rfl (lv_at hl 0 rfl) ?_
  refine va_get (D := (dC, dI)) (ci := 10) (v := .long (M.2.1 103)) (C := "CentrifugeUnitModel") (T := xF10) (N := 45) hx hb htt xin10 hown hK hP 0 rfl rfl 20 (by decide) (htt _ tw_799) (fun _ h9 => h9) rfl d_R_steer_8 ?_
  refine lv_lsub hx hb d_R_steer_11 ?_
  refine lv_ldc2 (v := 4) hx hb hown (htt _ tw_1035) d_R_steer_12 ?_
  refine lv_ldiv hx hb d_R_steer_15 (by decide) ?_
  refine lv_ladd hx hb d_R_steer_16 ?_
  refine lv_lstore_n (lv' := [(1, .long (40 + (((M.2.1 104) - (M.2.1 103)) / 4))), (0, .ref (A 20))]) hx hb d_R_steer_17 rfl hl (by decide) rfl (fun ls hl => ?_)
  refine lv_aload_n hx hb d_R_steer_18 rfl (lv_at hl 1 rfl) ?_
  refine lv_aload_n hx hb d_R_steer_19 rfl (lv_at hl 1 rfl) ?_
  refine va_get (D := (dC, dI)) (ci := 10) (v := .long (M.2.1 104)) (C := "CentrifugeUnitModel") (T := xF10) (N := 45) hx hb htt xin10 hown hK hP 0 rfl rfl 26 (by decide) (htt _ tw_805) (fun _ h9 => h9) rfl d_R_steer_20 ?_
  refine lv_lconst (v := 0) hx hb d_R_steer_23 (by decide) ?_
  refine W.lcmp hx hb d_R_steer_24 ?_
  refine xj_p 3 53 (fun q9 : Int32 => [(1, .long (40 + (((M.2.1 104) - (M.2.1 103)) / 4))), (0, .ref (A 20))]) (fun q9 : Int32 => [.int q9, .ref (A 20)]) (fun q9 : Int32 => q9 = F_R_steer_j1 M) (fun hJ2 => ?_) (fun ls j1 hl hj1 => ?_)
  · refine lv_if_eq (tgt := 34) hx hb d_R_steer_25 rfl (fun h4 => ?_) (fun h4 => ?_)
    · refine lv_iconst (v := 0) hx hb d_R_steer_34 (by decide) ?_
      refine lv_goto (tgt := 53) hx hb d_R_steer_35 rfl ?_
      exact hJ2 _ 0 (lv_sub hl [0, 1] rfl) (by rw [F_R_steer_j1, if_pos h4])
    · refine lv_lload_n hx hb d_R_steer_28 rfl (lv_at hl 0 rfl) ?_
      refine lv_lconst (v := 0) hx hb d_R_steer_29 (by decide) ?_
      refine W.lcmp hx hb d_R_steer_30 ?_
      refine lv_if_ge (tgt := 38) hx hb d_R_steer_31 rfl (fun h5 => ?_) (fun h5 => ?_)
      · refine lv_lload_n hx hb d_R_steer_38 rfl (lv_at hl 0 rfl) ?_
        refine lv_ldc2 (v := 100) hx hb hown (htt _ tw_931) d_R_steer_39 ?_
        refine W.lcmp hx hb d_R_steer_42 ?_
        refine lv_if_le (tgt := 51) hx hb d_R_steer_43 rfl (fun h6 => ?_) (fun h6 => ?_)
        · refine lv_lload_n hx hb d_R_steer_51 rfl (lv_at hl 0 rfl) ?_
          refine lv_l2i (v := ((40 + (((M.2.1 104) - (M.2.1 103)) / 4))).toInt32) hx hb d_R_steer_52 rfl ?_
          exact hJ2 _ ((40 + (((M.2.1 104) - (M.2.1 103)) / 4))).toInt32 (lv_sub hl [0, 1] rfl) (by rw [F_R_steer_j1, if_neg h4, if_pos h5, if_pos h6])
        · refine lv_bipush (v := 100) hx hb d_R_steer_46 (by decide) ?_
          refine lv_goto (tgt := 53) hx hb d_R_steer_48 rfl ?_
          exact hJ2 _ 100 (lv_sub hl [0, 1] rfl) (by rw [F_R_steer_j1, if_neg h4, if_pos h5, if_neg h6])
      · refine lv_iconst (v := 0) hx hb d_R_steer_34 (by decide) ?_
        refine lv_goto (tgt := 53) hx hb d_R_steer_35 rfl ?_
        exact hJ2 _ 0 (lv_sub hl [0, 1] rfl) (by rw [F_R_steer_j1, if_neg h4, if_neg h5])
  · refine va_put (D := (dC, dI)) (ci := 10) (v := .int j1) (ty := .int) (C := "CentrifugeUnitModel") (T := xF10) (N := 45) hx hb htt xin10 xT10 xTo10 xNm10 hown hK hP hD hS 0 rfl rfl 12 (by decide) (htt _ tw_791) (fun _ h9 => h9) rfl (by decide +kernel) rfl rfl (Nat.le_of_ble_eq_true rfl) d_R_steer_53 (fun H locs hP hD hS => ?_)
    have hP : va_P (dC, dI) xcl [(A 20, .inr (10, [.int (M.1 100), .ref (A 21), .ref (A 22), .ref (A 23), .ref (A 24), .ref (A 25), .int (M.1 101), .ref (A 26), .ref (A 27), .ref (A 28), .int (M.1 102), .long (M.2.1 100), .int j1, .int (M.1 104), .int (M.1 105), .int (M.1 106), .int (M.1 107), .int (M.1 108), .long (M.2.1 101), .long (M.2.1 102), .long (M.2.1 103), .int (M.1 109), .int (M.1 110), .int (M.1 111), .int (M.1 112), .int (M.1 113), .long (M.2.1 104), .long (M.2.1 105), .long (M.2.1 106), .int (M.1 114), .int (M.1 115), .int (M.1 116), .int (M.1 117), .int (M.1 118), .int (M.1 119), .int (M.1 120), .int (M.1 121), .int (M.1 122), .int (M.1 123), .int (M.1 124), .long (M.2.1 107), .int (M.1 125), .ref (A 29), .ref (A 30), .ref (A 31)]))] H := hP
    have hD : va_D AA [(A 20, .inr (10, [.int (M.1 100), .ref (A 21), .ref (A 22), .ref (A 23), .ref (A 24), .ref (A 25), .int (M.1 101), .ref (A 26), .ref (A 27), .ref (A 28), .int (M.1 102), .long (M.2.1 100), .int j1, .int (M.1 104), .int (M.1 105), .int (M.1 106), .int (M.1 107), .int (M.1 108), .long (M.2.1 101), .long (M.2.1 102), .long (M.2.1 103), .int (M.1 109), .int (M.1 110), .int (M.1 111), .int (M.1 112), .int (M.1 113), .long (M.2.1 104), .long (M.2.1 105), .long (M.2.1 106), .int (M.1 114), .int (M.1 115), .int (M.1 116), .int (M.1 117), .int (M.1 118), .int (M.1 119), .int (M.1 120), .int (M.1 121), .int (M.1 122), .int (M.1 123), .int (M.1 124), .long (M.2.1 107), .int (M.1 125), .ref (A 29), .ref (A 30), .ref (A 31)]))] := hD
    refine lv_aload_n hx hb d_R_steer_56 rfl (lv_at hl 1 rfl) ?_
    refine lv_iconst (v := 0) hx hb d_R_steer_57 (by decide) ?_
    refine va_put (D := (dC, dI)) (ci := 10) (v := .int 0) (ty := .int) (C := "CentrifugeUnitModel") (T := xF10) (N := 45) hx hb htt xin10 xT10 xTo10 xNm10 hown hK hP hD hS 0 rfl rfl 13 (by decide) (htt _ tw_792) (fun _ h9 => h9) rfl (by decide +kernel) rfl rfl (Nat.le_of_ble_eq_true rfl) d_R_steer_58 (fun H locs hP hD hS => ?_)
    have hP : va_P (dC, dI) xcl [(A 20, .inr (10, [.int (M.1 100), .ref (A 21), .ref (A 22), .ref (A 23), .ref (A 24), .ref (A 25), .int (M.1 101), .ref (A 26), .ref (A 27), .ref (A 28), .int (M.1 102), .long (M.2.1 100), .int j1, .int 0, .int (M.1 105), .int (M.1 106), .int (M.1 107), .int (M.1 108), .long (M.2.1 101), .long (M.2.1 102), .long (M.2.1 103), .int (M.1 109), .int (M.1 110), .int (M.1 111), .int (M.1 112), .int (M.1 113), .long (M.2.1 104), .long (M.2.1 105), .long (M.2.1 106), .int (M.1 114), .int (M.1 115), .int (M.1 116), .int (M.1 117), .int (M.1 118), .int (M.1 119), .int (M.1 120), .int (M.1 121), .int (M.1 122), .int (M.1 123), .int (M.1 124), .long (M.2.1 107), .int (M.1 125), .ref (A 29), .ref (A 30), .ref (A 31)]))] H := hP
    have hD : va_D AA [(A 20, .inr (10, [.int (M.1 100), .ref (A 21), .ref (A 22), .ref (A 23), .ref (A 24), .ref (A 25), .int (M.1 101), .ref (A 26), .ref (A 27), .ref (A 28), .int (M.1 102), .long (M.2.1 100), .int j1, .int 0, .int (M.1 105), .int (M.1 106), .int (M.1 107), .int (M.1 108), .long (M.2.1 101), .long (M.2.1 102), .long (M.2.1 103), .int (M.1 109), .int (M.1 110), .int (M.1 111), .int (M.1 112), .int (M.1 113), .long (M.2.1 104), .long (M.2.1 105), .long (M.2.1 106), .int (M.1 114), .int (M.1 115), .int (M.1 116), .int (M.1 117), .int (M.1 118), .int (M.1 119), .int (M.1 120), .int (M.1 121), .int (M.1 122), .int (M.1 123), .int (M.1 124), .long (M.2.1 107), .int (M.1 125), .ref (A 29), .ref (A 30), .ref (A 31)]))] := hD
    refine lv_aload_n hx hb d_R_steer_61 rfl (lv_at hl 1 rfl) ?_
    refine va_get (D := (dC, dI)) (ci := 10) (v := .long (M.2.1 103)) (C := "CentrifugeUnitModel") (T := xF10) (N := 45) hx hb htt xin10 hown hK hP 0 rfl rfl 20 (by decide) (htt _ tw_799) (fun _ h9 => h9) rfl d_R_steer_62 ?_
    refine lv_aload_n hx hb d_R_steer_65 rfl (lv_at hl 1 rfl) ?_
    refine va_get (D := (dC, dI)) (ci := 10) (v := .long (M.2.1 104)) (C := "CentrifugeUnitModel") (T := xF10) (N := 45) hx hb htt xin10 hown hK hP 0 rfl rfl 26 (by decide) (htt _ tw_805) (fun _ h9 => h9) rfl d_R_steer_66 ?_
    refine lv_ldc2 (v := 200) hx hb hown (htt _ tw_1014) d_R_steer_69 ?_
    refine lv_ladd hx hb d_R_steer_72 ?_
    refine W.lcmp hx hb d_R_steer_73 ?_
    refine lv_if_le (tgt := 87) hx hb d_R_steer_74 rfl (fun h3 => ?_) (fun h3 => ?_)
    · have hP9 := hP.sub (ws' := [(A 20, xc20 Z A (ap_R_steer M (j1, 0)))]) [0] rfl
      have hD9 := hD.sub (ws' := [(A 20, xc20 Z A (ap_R_steer M (j1, 0)))]) [0] (by decide) rfl
      exact W.vret hx hb hr (fun t ht hW => ⟨⟨(j1, 0), rfl, (by rw [F_R_steer, ← hj1, F_R_steer_k2, if_pos h3]), xE_at hP9 hK hD9 ht hW⟩, hS.F ht⟩) hS.2.2 d_R_steer_87
    · refine lv_aload_n hx hb d_R_steer_77 rfl (lv_at hl 1 rfl) ?_
      refine lv_iconst (v := 0) hx hb d_R_steer_78 (by decide) ?_
      refine va_put (D := (dC, dI)) (ci := 10) (v := .int 0) (ty := .int) (C := "CentrifugeUnitModel") (T := xF10) (N := 45) hx hb htt xin10 xT10 xTo10 xNm10 hown hK hP hD hS 0 rfl rfl 12 (by decide) (htt _ tw_791) (fun _ h9 => h9) rfl (by decide +kernel) rfl rfl (Nat.le_of_ble_eq_true rfl) d_R_steer_79 (fun H locs hP hD hS => ?_)
      have hP : va_P (dC, dI) xcl [(A 20, .inr (10, [.int (M.1 100), .ref (A 21), .ref (A 22), .ref (A 23), .ref (A 24), .ref (A 25), .int (M.1 101), .ref (A 26), .ref (A 27), .ref (A 28), .int (M.1 102), .long (M.2.1 100), .int 0, .int 0, .int (M.1 105), .int (M.1 106), .int (M.1 107), .int (M.1 108), .long (M.2.1 101), .long (M.2.1 102), .long (M.2.1 103), .int (M.1 109), .int (M.1 110), .int (M.1 111), .int (M.1 112), .int (M.1 113), .long (M.2.1 104), .long (M.2.1 105), .long (M.2.1 106), .int (M.1 114), .int (M.1 115), .int (M.1 116), .int (M.1 117), .int (M.1 118), .int (M.1 119), .int (M.1 120), .int (M.1 121), .int (M.1 122), .int (M.1 123), .int (M.1 124), .long (M.2.1 107), .int (M.1 125), .ref (A 29), .ref (A 30), .ref (A 31)]))] H := hP
      have hD : va_D AA [(A 20, .inr (10, [.int (M.1 100), .ref (A 21), .ref (A 22), .ref (A 23), .ref (A 24), .ref (A 25), .int (M.1 101), .ref (A 26), .ref (A 27), .ref (A 28), .int (M.1 102), .long (M.2.1 100), .int 0, .int 0, .int (M.1 105), .int (M.1 106), .int (M.1 107), .int (M.1 108), .long (M.2.1 101), .long (M.2.1 102), .long (M.2.1 103), .int (M.1 109), .int (M.1 110), .int (M.1 111), .int (M.1 112), .int (M.1 113), .long (M.2.1 104), .long (M.2.1 105), .long (M.2.1 106), .int (M.1 114), .int (M.1 115), .int (M.1 116), .int (M.1 117), .int (M.1 118), .int (M.1 119), .int (M.1 120), .int (M.1 121), .int (M.1 122), .int (M.1 123), .int (M.1 124), .long (M.2.1 107), .int (M.1 125), .ref (A 29), .ref (A 30), .ref (A 31)]))] := hD
      refine lv_aload_n hx hb d_R_steer_82 rfl (lv_at hl 1 rfl) ?_
      refine lv_iconst (v := 3) hx hb d_R_steer_83 (by decide) ?_
      refine va_put (D := (dC, dI)) (ci := 10) (v := .int 3) (ty := .int) (C := "CentrifugeUnitModel") (T := xF10) (N := 45) hx hb htt xin10 xT10 xTo10 xNm10 hown hK hP hD hS 0 rfl rfl 13 (by decide) (htt _ tw_792) (fun _ h9 => h9) rfl (by decide +kernel) rfl rfl (Nat.le_of_ble_eq_true rfl) d_R_steer_84 (fun H locs hP hD hS => ?_)
      have hP : va_P (dC, dI) xcl [(A 20, .inr (10, [.int (M.1 100), .ref (A 21), .ref (A 22), .ref (A 23), .ref (A 24), .ref (A 25), .int (M.1 101), .ref (A 26), .ref (A 27), .ref (A 28), .int (M.1 102), .long (M.2.1 100), .int 0, .int 3, .int (M.1 105), .int (M.1 106), .int (M.1 107), .int (M.1 108), .long (M.2.1 101), .long (M.2.1 102), .long (M.2.1 103), .int (M.1 109), .int (M.1 110), .int (M.1 111), .int (M.1 112), .int (M.1 113), .long (M.2.1 104), .long (M.2.1 105), .long (M.2.1 106), .int (M.1 114), .int (M.1 115), .int (M.1 116), .int (M.1 117), .int (M.1 118), .int (M.1 119), .int (M.1 120), .int (M.1 121), .int (M.1 122), .int (M.1 123), .int (M.1 124), .long (M.2.1 107), .int (M.1 125), .ref (A 29), .ref (A 30), .ref (A 31)]))] H := hP
      have hD : va_D AA [(A 20, .inr (10, [.int (M.1 100), .ref (A 21), .ref (A 22), .ref (A 23), .ref (A 24), .ref (A 25), .int (M.1 101), .ref (A 26), .ref (A 27), .ref (A 28), .int (M.1 102), .long (M.2.1 100), .int 0, .int 3, .int (M.1 105), .int (M.1 106), .int (M.1 107), .int (M.1 108), .long (M.2.1 101), .long (M.2.1 102), .long (M.2.1 103), .int (M.1 109), .int (M.1 110), .int (M.1 111), .int (M.1 112), .int (M.1 113), .long (M.2.1 104), .long (M.2.1 105), .long (M.2.1 106), .int (M.1 114), .int (M.1 115), .int (M.1 116), .int (M.1 117), .int (M.1 118), .int (M.1 119), .int (M.1 120), .int (M.1 121), .int (M.1 122), .int (M.1 123), .int (M.1 124), .long (M.2.1 107), .int (M.1 125), .ref (A 29), .ref (A 30), .ref (A 31)]))] := hD
      have hP9 := hP.sub (ws' := [(A 20, xc20 Z A (ap_R_steer M (0, 3)))]) [0] rfl
      have hD9 := hD.sub (ws' := [(A 20, xc20 Z A (ap_R_steer M (0, 3)))]) [0] (by decide) rfl
      exact W.vret hx hb hr (fun t ht hW => ⟨⟨(0, 3), rfl, (by rw [F_R_steer, ← hj1, F_R_steer_k2, if_neg h3]), xE_at hP9 hK hD9 ht hW⟩, hS.F ht⟩) hS.2.2 d_R_steer_87
abbrev bc_R_dose : ByteArray := prog_12_method_29_code
def y_R_dose : MethodName := ⟨"CentrifugeUnitModel", "dose", "()J"⟩
theorem d_R_dose_0 : decode bc_R_dose 0 = .ok (.aload_n 0, 1) := by decide +kernel
theorem d_R_dose_1 : decode bc_R_dose 1 = .ok (.iconst 0, 1) := by decide +kernel
theorem d_R_dose_2 : decode bc_R_dose 2 = .ok (.putfield 68, 3) := by decide +kernel
theorem d_R_dose_5 : decode bc_R_dose 5 = .ok (.aload_n 0, 1) := by decide +kernel
theorem d_R_dose_6 : decode bc_R_dose 6 = .ok (.getfield 130, 3) := by decide +kernel
theorem d_R_dose_9 : decode bc_R_dose 9 = .ok (.lreturn, 1) := by decide +kernel
abbrev ap_R_dose (M : XM) (u : Int32) : XM := ((va_up M.1 100 u), M.2)
def F_R_dose (M : XM) : Int64 × Int32 := ((M.2.1 105), 0)
set_option maxHeartbeats 4000000 in
set_option maxRecDepth 100000 in
theorem c_R_dose (l : Launch) (dC : Nat → ClassId) (dI : Nat → Nat → Nat) (Z : Nat → ClassId) (A : Nat → Nat) (sz : Nat) (M : XM) : Met l y_R_dose (.code y_R_dose bc_R_dose 1 (some .long) :: xw) ({ frames := 0, cells := 0, slots := 0, locals := 0 }) (va_Pc [.ref (A 20)] (xB (dC, dI) xcl (xty Z) sz [(A 20, xc20 Z A M)])) (va_Ql (fun (r : Int64) (u : Int32) => (r, u) = F_R_dose M) (fun u => xE (dC, dI) xcl (xty Z) (va_A [(A 20, xc20 Z A M)] sz) [(A 20, xc20 Z A (ap_R_dose M u))]) (va_A [(A 20, xc20 Z A M)] sz)) 0 0 (va_A [(A 20, xc20 Z A M)] sz) := by
  refine Met.ofW (cc := bc_R_dose) (maxL := 1) (ret := (some .long)) (by decide) rfl ?_
  intro p e s m args below meth c s₁ B hml hv
  obtain ⟨rfl, hsz, hP, hK, hD0, hq⟩ := hv
  have hx := B.exec
  have hb := B.bytes
  have hr := B.returns
  have hts := atoms_spec (ws := (.code y_R_dose bc_R_dose 1 (some .long) :: xw)) B.pre
  have htt : ∀ w ∈ xw, w.before _ s = true := fun w h => hts w (List.mem_cons_of_mem _ h)
  have hown : s.vm.findClass "CentrifugeUnitModel" = some m.cls := findClass_of_methodNamed B.named
  have hlocks := B.notSynchronized
  subst hsz
  have hD := hD0.self (sz := s.heap.size)
  generalize hAe : va_A [(A 20, xc20 Z A M)] s.heap.size = AA at hD ⊢
  have hA : ∀ q : Nat, s.heap.size ≤ q → AA q := fun q h => by rw [← hAe]; exact Or.inr h
  have hS : va_S AA s.heap s.heap [] := va_S.rf
  have hP : va_P (dC, dI) xcl [(A 20, .inr (10, [.int (M.1 100), .ref (A 21), .ref (A 22), .ref (A 23), .ref (A 24), .ref (A 25), .int (M.1 101), .ref (A 26), .ref (A 27), .ref (A 28), .int (M.1 102), .long (M.2.1 100), .int (M.1 103), .int (M.1 104), .int (M.1 105), .int (M.1 106), .int (M.1 107), .int (M.1 108), .long (M.2.1 101), .long (M.2.1 102), .long (M.2.1 103), .int (M.1 109), .int (M.1 110), .int (M.1 111), .int (M.1 112), .int (M.1 113), .long (M.2.1 104), .long (M.2.1 105), .long (M.2.1 106), .int (M.1 114), .int (M.1 115), .int (M.1 116), .int (M.1 117), .int (M.1 118), .int (M.1 119), .int (M.1 120), .int (M.1 121), .int (M.1 122), .int (M.1 123), .int (M.1 124), .long (M.2.1 107), .int (M.1 125), .ref (A 29), .ref (A 30), .ref (A 31)]))] s.heap := hP
  have hD : va_D AA [(A 20, .inr (10, [.int (M.1 100), .ref (A 21), .ref (A 22), .ref (A 23), .ref (A 24), .ref (A 25), .int (M.1 101), .ref (A 26), .ref (A 27), .ref (A 28), .int (M.1 102), .long (M.2.1 100), .int (M.1 103), .int (M.1 104), .int (M.1 105), .int (M.1 106), .int (M.1 107), .int (M.1 108), .long (M.2.1 101), .long (M.2.1 102), .long (M.2.1 103), .int (M.1 109), .int (M.1 110), .int (M.1 111), .int (M.1 112), .int (M.1 113), .long (M.2.1 104), .long (M.2.1 105), .long (M.2.1 106), .int (M.1 114), .int (M.1 115), .int (M.1 116), .int (M.1 117), .int (M.1 118), .int (M.1 119), .int (M.1 120), .int (M.1 121), .int (M.1 122), .int (M.1 123), .int (M.1 124), .long (M.2.1 107), .int (M.1 125), .ref (A 29), .ref (A 30), .ref (A 31)]))] := hD
  have hl := lv_entry ([.ref (A 20)]) (n := 1) (Nat.le_of_ble_eq_true rfl)
  rw [lg_entry_eq]
  generalize (lg_sl ([.ref (A 20)]) ++ List.replicate (1 - (lg_sl ([.ref (A 20)])).length) Slot.unset).toArray = ls at hl ⊢
  have hl : lv_has ls 1 [(0, .ref (A 20))] := hl
  refine lv_aload_n hx hb d_R_dose_0 rfl (lv_at hl 0 rfl) ?_
  refine lv_iconst (v := 0) hx hb d_R_dose_1 (by decide) ?_
  refine va_put (D := (dC, dI)) (ci := 10) (v := .int 0) (ty := .int) (C := "CentrifugeUnitModel") (T := xF10) (N := 45) hx hb htt xin10 xT10 xTo10 xNm10 hown hK hP hD hS 0 rfl rfl 0 (by decide) (htt _ tw_779) (fun _ h9 => h9) rfl (by decide +kernel) rfl rfl (Nat.le_of_ble_eq_true rfl) d_R_dose_2 (fun H locs hP hD hS => ?_)
  have hP : va_P (dC, dI) xcl [(A 20, .inr (10, [.int 0, .ref (A 21), .ref (A 22), .ref (A 23), .ref (A 24), .ref (A 25), .int (M.1 101), .ref (A 26), .ref (A 27), .ref (A 28), .int (M.1 102), .long (M.2.1 100), .int (M.1 103), .int (M.1 104), .int (M.1 105), .int (M.1 106), .int (M.1 107), .int (M.1 108), .long (M.2.1 101), .long (M.2.1 102), .long (M.2.1 103), .int (M.1 109), .int (M.1 110), .int (M.1 111), .int (M.1 112), .int (M.1 113), .long (M.2.1 104), .long (M.2.1 105), .long (M.2.1 106), .int (M.1 114), .int (M.1 115), .int (M.1 116), .int (M.1 117), .int (M.1 118), .int (M.1 119), .int (M.1 120), .int (M.1 121), .int (M.1 122), .int (M.1 123), .int (M.1 124), .long (M.2.1 107), .int (M.1 125), .ref (A 29), .ref (A 30), .ref (A 31)]))] H := hP
  have hD : va_D AA [(A 20, .inr (10, [.int 0, .ref (A 21), .ref (A 22), .ref (A 23), .ref (A 24), .ref (A 25), .int (M.1 101), .ref (A 26), .ref (A 27), .ref (A 28), .int (M.1 102), .long (M.2.1 100), .int (M.1 103), .int (M.1 104), .int (M.1 105), .int (M.1 106), .int (M.1 107), .int (M.1 108), .long (M.2.1 101), .long (M.2.1 102), .long (M.2.1 103), .int (M.1 109), .int (M.1 110), .int (M.1 111), .int (M.1 112), .int (M.1 113), .long (M.2.1 104), .long (M.2.1 105), .long (M.2.1 106), .int (M.1 114), .int (M.1 115), .int (M.1 116), .int (M.1 117), .int (M.1 118), .int (M.1 119), .int (M.1 120), .int (M.1 121), .int (M.1 122), .int (M.1 123), .int (M.1 124), .long (M.2.1 107), .int (M.1 125), .ref (A 29), .ref (A 30), .ref (A 31)]))] := hD
  refine lv_aload_n hx hb d_R_dose_5 rfl (lv_at hl 0 rfl) ?_
  refine va_get (D := (dC, dI)) (ci := 10) (v := .long (M.2.1 105)) (C := "CentrifugeUnitModel") (T := xF10) (N := 45) hx hb htt xin10 hown hK hP 0 rfl rfl 27 (by decide) (htt _ tw_806) (fun _ h9 => h9) rfl d_R_dose_6 ?_
  have hP9 := hP.sub (ws' := [(A 20, xc20 Z A (ap_R_dose M 0))]) [0] rfl
  have hD9 := hD.sub (ws' := [(A 20, xc20 Z A (ap_R_dose M 0))]) [0] (by decide) rfl
  exact W.lret hx hb hr (fun t ht hW => ⟨⟨(M.2.1 105), 0, rfl, (by rw [F_R_dose]), xE_at hP9 hK hD9 ht hW⟩, hS.F ht⟩) hS.2.2 d_R_dose_9
abbrev bc_R_plant : ByteArray := prog_12_method_31_code
def y_R_plant : MethodName := ⟨"CentrifugeUnitModel", "plant", "()J"⟩
theorem d_R_plant_0 : decode bc_R_plant 0 = .ok (.aload_n 0, 1) := by decide +kernel
theorem d_R_plant_1 : decode bc_R_plant 1 = .ok (.iconst 0, 1) := by decide +kernel
theorem d_R_plant_2 : decode bc_R_plant 2 = .ok (.putfield 68, 3) := by decide +kernel
theorem d_R_plant_5 : decode bc_R_plant 5 = .ok (.aload_n 0, 1) := by decide +kernel
theorem d_R_plant_6 : decode bc_R_plant 6 = .ok (.getfield 180, 3) := by decide +kernel
theorem d_R_plant_9 : decode bc_R_plant 9 = .ok (.lreturn, 1) := by decide +kernel
abbrev ap_R_plant (M : XM) (u : Int32) : XM := ((va_up M.1 100 u), M.2)
def F_R_plant (M : XM) : Int64 × Int32 := ((M.2.1 100), 0)
set_option maxHeartbeats 4000000 in
set_option maxRecDepth 100000 in
theorem c_R_plant (l : Launch) (dC : Nat → ClassId) (dI : Nat → Nat → Nat) (Z : Nat → ClassId) (A : Nat → Nat) (sz : Nat) (M : XM) : Met l y_R_plant (.code y_R_plant bc_R_plant 1 (some .long) :: xw) ({ frames := 0, cells := 0, slots := 0, locals := 0 }) (va_Pc [.ref (A 20)] (xB (dC, dI) xcl (xty Z) sz [(A 20, xc20 Z A M)])) (va_Ql (fun (r : Int64) (u : Int32) => (r, u) = F_R_plant M) (fun u => xE (dC, dI) xcl (xty Z) (va_A [(A 20, xc20 Z A M)] sz) [(A 20, xc20 Z A (ap_R_plant M u))]) (va_A [(A 20, xc20 Z A M)] sz)) 0 0 (va_A [(A 20, xc20 Z A M)] sz) := by
  refine Met.ofW (cc := bc_R_plant) (maxL := 1) (ret := (some .long)) (by decide) rfl ?_
  intro p e s m args below meth c s₁ B hml hv
  obtain ⟨rfl, hsz, hP, hK, hD0, hq⟩ := hv
  have hx := B.exec
  have hb := B.bytes
  have hr := B.returns
  have hts := atoms_spec (ws := (.code y_R_plant bc_R_plant 1 (some .long) :: xw)) B.pre
  have htt : ∀ w ∈ xw, w.before _ s = true := fun w h => hts w (List.mem_cons_of_mem _ h)
  have hown : s.vm.findClass "CentrifugeUnitModel" = some m.cls := findClass_of_methodNamed B.named
  have hlocks := B.notSynchronized
  subst hsz
  have hD := hD0.self (sz := s.heap.size)
  generalize hAe : va_A [(A 20, xc20 Z A M)] s.heap.size = AA at hD ⊢
  have hA : ∀ q : Nat, s.heap.size ≤ q → AA q := fun q h => by rw [← hAe]; exact Or.inr h
  have hS : va_S AA s.heap s.heap [] := va_S.rf
  have hP : va_P (dC, dI) xcl [(A 20, .inr (10, [.int (M.1 100), .ref (A 21), .ref (A 22), .ref (A 23), .ref (A 24), .ref (A 25), .int (M.1 101), .ref (A 26), .ref (A 27), .ref (A 28), .int (M.1 102), .long (M.2.1 100), .int (M.1 103), .int (M.1 104), .int (M.1 105), .int (M.1 106), .int (M.1 107), .int (M.1 108), .long (M.2.1 101), .long (M.2.1 102), .long (M.2.1 103), .int (M.1 109), .int (M.1 110), .int (M.1 111), .int (M.1 112), .int (M.1 113), .long (M.2.1 104), .long (M.2.1 105), .long (M.2.1 106), .int (M.1 114), .int (M.1 115), .int (M.1 116), .int (M.1 117), .int (M.1 118), .int (M.1 119), .int (M.1 120), .int (M.1 121), .int (M.1 122), .int (M.1 123), .int (M.1 124), .long (M.2.1 107), .int (M.1 125), .ref (A 29), .ref (A 30), .ref (A 31)]))] s.heap := hP
  have hD : va_D AA [(A 20, .inr (10, [.int (M.1 100), .ref (A 21), .ref (A 22), .ref (A 23), .ref (A 24), .ref (A 25), .int (M.1 101), .ref (A 26), .ref (A 27), .ref (A 28), .int (M.1 102), .long (M.2.1 100), .int (M.1 103), .int (M.1 104), .int (M.1 105), .int (M.1 106), .int (M.1 107), .int (M.1 108), .long (M.2.1 101), .long (M.2.1 102), .long (M.2.1 103), .int (M.1 109), .int (M.1 110), .int (M.1 111), .int (M.1 112), .int (M.1 113), .long (M.2.1 104), .long (M.2.1 105), .long (M.2.1 106), .int (M.1 114), .int (M.1 115), .int (M.1 116), .int (M.1 117), .int (M.1 118), .int (M.1 119), .int (M.1 120), .int (M.1 121), .int (M.1 122), .int (M.1 123), .int (M.1 124), .long (M.2.1 107), .int (M.1 125), .ref (A 29), .ref (A 30), .ref (A 31)]))] := hD
  have hl := lv_entry ([.ref (A 20)]) (n := 1) (Nat.le_of_ble_eq_true rfl)
  rw [lg_entry_eq]
  generalize (lg_sl ([.ref (A 20)]) ++ List.replicate (1 - (lg_sl ([.ref (A 20)])).length) Slot.unset).toArray = ls at hl ⊢
  have hl : lv_has ls 1 [(0, .ref (A 20))] := hl
  refine lv_aload_n hx hb d_R_plant_0 rfl (lv_at hl 0 rfl) ?_
  refine lv_iconst (v := 0) hx hb d_R_plant_1 (by decide) ?_
  refine va_put (D := (dC, dI)) (ci := 10) (v := .int 0) (ty := .int) (C := "CentrifugeUnitModel") (T := xF10) (N := 45) hx hb htt xin10 xT10 xTo10 xNm10 hown hK hP hD hS 0 rfl rfl 0 (by decide) (htt _ tw_779) (fun _ h9 => h9) rfl (by decide +kernel) rfl rfl (Nat.le_of_ble_eq_true rfl) d_R_plant_2 (fun H locs hP hD hS => ?_)
  have hP : va_P (dC, dI) xcl [(A 20, .inr (10, [.int 0, .ref (A 21), .ref (A 22), .ref (A 23), .ref (A 24), .ref (A 25), .int (M.1 101), .ref (A 26), .ref (A 27), .ref (A 28), .int (M.1 102), .long (M.2.1 100), .int (M.1 103), .int (M.1 104), .int (M.1 105), .int (M.1 106), .int (M.1 107), .int (M.1 108), .long (M.2.1 101), .long (M.2.1 102), .long (M.2.1 103), .int (M.1 109), .int (M.1 110), .int (M.1 111), .int (M.1 112), .int (M.1 113), .long (M.2.1 104), .long (M.2.1 105), .long (M.2.1 106), .int (M.1 114), .int (M.1 115), .int (M.1 116), .int (M.1 117), .int (M.1 118), .int (M.1 119), .int (M.1 120), .int (M.1 121), .int (M.1 122), .int (M.1 123), .int (M.1 124), .long (M.2.1 107), .int (M.1 125), .ref (A 29), .ref (A 30), .ref (A 31)]))] H := hP
  have hD : va_D AA [(A 20, .inr (10, [.int 0, .ref (A 21), .ref (A 22), .ref (A 23), .ref (A 24), .ref (A 25), .int (M.1 101), .ref (A 26), .ref (A 27), .ref (A 28), .int (M.1 102), .long (M.2.1 100), .int (M.1 103), .int (M.1 104), .int (M.1 105), .int (M.1 106), .int (M.1 107), .int (M.1 108), .long (M.2.1 101), .long (M.2.1 102), .long (M.2.1 103), .int (M.1 109), .int (M.1 110), .int (M.1 111), .int (M.1 112), .int (M.1 113), .long (M.2.1 104), .long (M.2.1 105), .long (M.2.1 106), .int (M.1 114), .int (M.1 115), .int (M.1 116), .int (M.1 117), .int (M.1 118), .int (M.1 119), .int (M.1 120), .int (M.1 121), .int (M.1 122), .int (M.1 123), .int (M.1 124), .long (M.2.1 107), .int (M.1 125), .ref (A 29), .ref (A 30), .ref (A 31)]))] := hD
  refine lv_aload_n hx hb d_R_plant_5 rfl (lv_at hl 0 rfl) ?_
  refine va_get (D := (dC, dI)) (ci := 10) (v := .long (M.2.1 100)) (C := "CentrifugeUnitModel") (T := xF10) (N := 45) hx hb htt xin10 hown hK hP 0 rfl rfl 11 (by decide) (htt _ tw_790) (fun _ h9 => h9) rfl d_R_plant_6 ?_
  have hP9 := hP.sub (ws' := [(A 20, xc20 Z A (ap_R_plant M 0))]) [0] rfl
  have hD9 := hD.sub (ws' := [(A 20, xc20 Z A (ap_R_plant M 0))]) [0] (by decide) rfl
  exact W.lret hx hb hr (fun t ht hW => ⟨⟨(M.2.1 100), 0, rfl, (by rw [F_R_plant]), xE_at hP9 hK hD9 ht hW⟩, hS.F ht⟩) hS.2.2 d_R_plant_9
