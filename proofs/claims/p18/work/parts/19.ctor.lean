set_option maxRecDepth 20000 in
theorem tw_3 : Cond.initialized "java/util/Arrays" ∈ xw := xw_of (List.mem_append_right _ (List.mem_of_getElem? (i := 3) (by decide +kernel))) rfl
set_option maxRecDepth 20000 in
theorem tw_26 : Cond.instanceMethod ⟨"java/lang/Object", "<init>", "()V"⟩ ∈ xw := xw_of (List.mem_append_right _ (List.mem_of_getElem? (i := 26) (by decide +kernel))) rfl
set_option maxRecDepth 20000 in
theorem tw_27 : Cond.code ⟨"java/lang/Object", "<init>", "()V"⟩ object_method_1_code 1 (Option.none : Option Jvm.ClassFile.FieldType) ∈ xw := xw_of (List.mem_append_right _ (List.mem_of_getElem? (i := 27) (by decide +kernel))) rfl
set_option maxRecDepth 20000 in
theorem tw_33 : Cond.methodLink "CentrifugeUnit$Rotors" 3 ⟨"java/lang/Object", "<init>", "()V"⟩ ∈ xw := xw_of (List.mem_append_right _ (List.mem_of_getElem? (i := 33) (by decide +kernel))) rfl
set_option maxRecDepth 20000 in
theorem tw_34 : Cond.methodLink "CentrifugeUnit$Rotors" 28 ⟨"java/util/Arrays", "fill", "([II)V"⟩ ∈ xw := xw_of (List.mem_append_right _ (List.mem_of_getElem? (i := 34) (by decide +kernel))) rfl
set_option maxRecDepth 20000 in
theorem tw_35 : Cond.static ⟨"java/util/Arrays", "fill", "([II)V"⟩ ∈ xw := xw_of (List.mem_append_right _ (List.mem_of_getElem? (i := 35) (by decide +kernel))) rfl
set_option maxRecDepth 20000 in
theorem tw_36 : Cond.code ⟨"java/util/Arrays", "fill", "([II)V"⟩ prog_21_method_103_code 4 (Option.none : Option Jvm.ClassFile.FieldType) ∈ xw := xw_of (List.mem_append_right _ (List.mem_of_getElem? (i := 36) (by decide +kernel))) rfl
set_option maxRecDepth 20000 in
theorem tw_54 : Cond.arrayClass Jvm.ClassFile.FieldType.int ∈ xw := xw_of (List.mem_append_right _ (List.mem_of_getElem? (i := 54) (by decide +kernel))) rfl
set_option maxRecDepth 20000 in
theorem tw_60 : Cond.methodLink "CentrifugeUnit$Program" 1 ⟨"java/lang/Object", "<init>", "()V"⟩ ∈ xw := xw_of (List.mem_append_right _ (List.mem_of_getElem? (i := 60) (by decide +kernel))) rfl
set_option maxRecDepth 20000 in
theorem tw_83 : Cond.methodLink "CentrifugeUnit$Model" 1 ⟨"java/lang/Object", "<init>", "()V"⟩ ∈ xw := xw_of (List.mem_append_right _ (List.mem_of_getElem? (i := 83) (by decide +kernel))) rfl
set_option maxRecDepth 20000 in
theorem tw_94 : Cond.methodLink "CentrifugeUnit$Sensors" 1 ⟨"java/lang/Object", "<init>", "()V"⟩ ∈ xw := xw_of (List.mem_append_right _ (List.mem_of_getElem? (i := 94) (by decide +kernel))) rfl
set_option maxRecDepth 20000 in
theorem tw_128 : Cond.methodLink "CentrifugeUnit$Lid" 1 ⟨"java/lang/Object", "<init>", "()V"⟩ ∈ xw := xw_of (List.mem_append_right _ (List.mem_of_getElem? (i := 128) (by decide +kernel))) rfl
set_option maxRecDepth 20000 in
theorem tw_146 : Cond.methodLink "CentrifugeUnit$Records" 1 ⟨"java/lang/Object", "<init>", "()V"⟩ ∈ xw := xw_of (List.mem_append_right _ (List.mem_of_getElem? (i := 146) (by decide +kernel))) rfl
set_option maxRecDepth 20000 in
theorem tw_161 : Cond.arrayClass Jvm.ClassFile.FieldType.long ∈ xw := xw_of (List.mem_append_right _ (List.mem_of_getElem? (i := 161) (by decide +kernel))) rfl
set_option maxRecDepth 20000 in
theorem tw_167 : Cond.methodLink "CentrifugeUnit$Control" 3 ⟨"java/lang/Object", "<init>", "()V"⟩ ∈ xw := xw_of (List.mem_append_right _ (List.mem_of_getElem? (i := 167) (by decide +kernel))) rfl
set_option maxRecDepth 20000 in
theorem tw_168 : Cond.classLink "CentrifugeUnit$Control" 9 "CentrifugeUnit$Watch" ∈ xw := xw_of (List.mem_append_right _ (List.mem_of_getElem? (i := 168) (by decide +kernel))) rfl
set_option maxRecDepth 20000 in
theorem tw_169 : Cond.instantiable "CentrifugeUnit$Watch" 4 ∈ xw := xw_of (List.mem_append_right _ (List.mem_of_getElem? (i := 169) (by decide +kernel))) rfl
set_option maxRecDepth 20000 in
theorem tw_171 : Cond.instanceMethod ⟨"CentrifugeUnit$Watch", "<init>", "()V"⟩ ∈ xw := xw_of (List.mem_append_right _ (List.mem_of_getElem? (i := 171) (by decide +kernel))) rfl
set_option maxRecDepth 20000 in
theorem tw_172 : Cond.code ⟨"CentrifugeUnit$Watch", "<init>", "()V"⟩ prog_10_method_1_code 1 (Option.none : Option Jvm.ClassFile.FieldType) ∈ xw := xw_of (List.mem_append_right _ (List.mem_of_getElem? (i := 172) (by decide +kernel))) rfl
set_option maxRecDepth 20000 in
theorem tw_173 : Cond.methodLink "CentrifugeUnit$Watch" 1 ⟨"java/lang/Object", "<init>", "()V"⟩ ∈ xw := xw_of (List.mem_append_right _ (List.mem_of_getElem? (i := 173) (by decide +kernel))) rfl
set_option maxRecDepth 20000 in
theorem tw_188 : Cond.classLink "CentrifugeUnit$Control" 18 "CentrifugeUnit$Run" ∈ xw := xw_of (List.mem_append_right _ (List.mem_of_getElem? (i := 188) (by decide +kernel))) rfl
set_option maxRecDepth 20000 in
theorem tw_189 : Cond.instantiable "CentrifugeUnit$Run" 8 ∈ xw := xw_of (List.mem_append_right _ (List.mem_of_getElem? (i := 189) (by decide +kernel))) rfl
set_option maxRecDepth 20000 in
theorem tw_191 : Cond.instanceMethod ⟨"CentrifugeUnit$Run", "<init>", "()V"⟩ ∈ xw := xw_of (List.mem_append_right _ (List.mem_of_getElem? (i := 191) (by decide +kernel))) rfl
set_option maxRecDepth 20000 in
theorem tw_192 : Cond.code ⟨"CentrifugeUnit$Run", "<init>", "()V"⟩ prog_8_method_1_code 1 (Option.none : Option Jvm.ClassFile.FieldType) ∈ xw := xw_of (List.mem_append_right _ (List.mem_of_getElem? (i := 192) (by decide +kernel))) rfl
set_option maxRecDepth 20000 in
theorem tw_193 : Cond.methodLink "CentrifugeUnit$Run" 3 ⟨"java/lang/Object", "<init>", "()V"⟩ ∈ xw := xw_of (List.mem_append_right _ (List.mem_of_getElem? (i := 193) (by decide +kernel))) rfl
def xM0 : XM := ((fun _ => 0), (fun _ => 0), (fun _ _ => 0), (fun _ _ => 0))
abbrev bc_Lid_init : ByteArray := prog_3_method_1_code
def y_Lid_init : MethodName := ⟨"CentrifugeUnit$Lid", "<init>", "()V"⟩
theorem d_Lid_init_0 : decode bc_Lid_init 0 = .ok (.aload_n 0, 1) := by decide +kernel
theorem d_Lid_init_1 : decode bc_Lid_init 1 = .ok (.invokespecial 1, 3) := by decide +kernel
theorem d_Lid_init_4 : decode bc_Lid_init 4 = .ok (.aload_n 0, 1) := by decide +kernel
theorem d_Lid_init_5 : decode bc_Lid_init 5 = .ok (.iconst 1, 1) := by decide +kernel
theorem d_Lid_init_6 : decode bc_Lid_init 6 = .ok (.putfield 7, 3) := by decide +kernel
theorem d_Lid_init_9 : decode bc_Lid_init 9 = .ok (.return_, 1) := by decide +kernel
abbrev ap_Lid_init (M : XM) (u : Int32) : XM := ((va_up M.1 8 u), M.2)
def F_Lid_init (M : XM) : (Int32) := 1
set_option maxHeartbeats 4000000 in
set_option maxRecDepth 100000 in
theorem c_Lid_init (l : Launch) (dC : Nat → ClassId) (dI : Nat → Nat → Nat) (Z : Nat → ClassId) (A : Nat → Nat) (sz : Nat) (M : XM) : Met l y_Lid_init (.code y_Lid_init bc_Lid_init 1 none :: xw) ({ frames := 1, cells := 0, slots := 0, locals := 20 }) (va_Pc [.ref (A 12)] (xB (dC, dI) xcl (xty Z) sz [(A 12, xc12 Z A M)])) (va_Qv (fun u : Int32 => u = F_Lid_init M) (fun u => xE (dC, dI) xcl (xty Z) (va_A [(A 12, xc12 Z A M)] sz) [(A 12, xc12 Z A (ap_Lid_init M u))]) (va_A [(A 12, xc12 Z A M)] sz)) 0 0 (va_A [(A 12, xc12 Z A M)] sz) := by
  refine Met.ofW (cc := bc_Lid_init) (maxL := 1) (ret := none) (by decide) rfl ?_
  intro p e s m args below meth c s₁ B hml hv
  obtain ⟨rfl, hsz, hP, hK, hD0, hq⟩ := hv
  have hx := B.exec
  have hb := B.bytes
  have hr := B.returns
  have hts := atoms_spec (ws := (.code y_Lid_init bc_Lid_init 1 none :: xw)) B.pre
  have htt : ∀ w ∈ xw, w.before _ s = true := fun w h => hts w (List.mem_cons_of_mem _ h)
  have hown : s.vm.findClass "CentrifugeUnit$Lid" = some m.cls := findClass_of_methodNamed B.named
  have hlocks := B.notSynchronized
  subst hsz
  have hD := hD0.self (sz := s.heap.size)
  generalize hAe : va_A [(A 12, xc12 Z A M)] s.heap.size = AA at hD ⊢
  have hA : ∀ q : Nat, s.heap.size ≤ q → AA q := fun q h => by rw [← hAe]; exact Or.inr h
  have hS : va_S AA s.heap s.heap [] := va_S.rf
  have hP : va_P (dC, dI) xcl [(A 12, .inr (1, [.int (M.1 8), .int (M.1 9), .int (M.1 10)]))] s.heap := hP
  have hD : va_D AA [(A 12, .inr (1, [.int (M.1 8), .int (M.1 9), .int (M.1 10)]))] := hD
  have hl := lv_entry ([.ref (A 12)]) (n := 1) (Nat.le_of_ble_eq_true rfl)
  rw [lg_entry_eq]
  generalize (lg_sl ([.ref (A 12)]) ++ List.replicate (1 - (lg_sl ([.ref (A 12)])).length) Slot.unset).toArray = ls at hl ⊢
  have hl : lv_has ls 1 [(0, .ref (A 12))] := hl
  refine lv_aload_n hx hb d_Lid_init_0 rfl (lv_at hl 0 rfl) ?_
  refine W.objInit hx hb hown (htt _ tw_128) (htt _ tw_26) (htt _ tw_27) rfl (by rw [hml]; exact hl.1) rfl d_Lid_init_1 (Nat.le_of_ble_eq_true rfl) (Nat.le_of_ble_eq_true rfl) ?_
  refine W.eq (g2 := F0 m 4 ls []) rfl ?_
  refine lv_aload_n hx hb d_Lid_init_4 rfl (lv_at hl 0 rfl) ?_
  refine lv_iconst (v := 1) hx hb d_Lid_init_5 (by decide) ?_
  refine va_put (D := (dC, dI)) (ci := 1) (v := .int 1) (ty := .boolean) (C := "CentrifugeUnit$Lid") (T := xF1) (N := 3) hx hb htt xin1 xT1 xTo1 xNm1 hown hK hP hD hS 0 rfl rfl 0 (by decide) (htt _ tw_129) (fun _ h9 => h9) rfl (by decide +kernel) rfl rfl (Nat.le_of_ble_eq_true rfl) d_Lid_init_6 (fun H locs hP hD hS => ?_)
  have hP : va_P (dC, dI) xcl [(A 12, .inr (1, [.int 1, .int (M.1 9), .int (M.1 10)]))] H := hP
  have hD : va_D AA [(A 12, .inr (1, [.int 1, .int (M.1 9), .int (M.1 10)]))] := hD
  have hP9 := hP.sub (ws' := [(A 12, xc12 Z A (ap_Lid_init M 1))]) [0] rfl
  have hD9 := hD.sub (ws' := [(A 12, xc12 Z A (ap_Lid_init M 1))]) [0] (by decide) rfl
  exact W.vret hx hb hr (fun t ht hW => ⟨⟨1, rfl, (by rw [F_Lid_init]), xE_at hP9 hK hD9 ht hW⟩, hS.F ht⟩) hS.2.2 d_Lid_init_9
abbrev bc_Sensors_init : ByteArray := prog_9_method_1_code
def y_Sensors_init : MethodName := ⟨"CentrifugeUnit$Sensors", "<init>", "()V"⟩
theorem d_Sensors_init_0 : decode bc_Sensors_init 0 = .ok (.aload_n 0, 1) := by decide +kernel
theorem d_Sensors_init_1 : decode bc_Sensors_init 1 = .ok (.invokespecial 1, 3) := by decide +kernel
theorem d_Sensors_init_4 : decode bc_Sensors_init 4 = .ok (.aload_n 0, 1) := by decide +kernel
theorem d_Sensors_init_5 : decode bc_Sensors_init 5 = .ok (.iconst (-1), 1) := by decide +kernel
theorem d_Sensors_init_6 : decode bc_Sensors_init 6 = .ok (.putfield 9, 3) := by decide +kernel
theorem d_Sensors_init_9 : decode bc_Sensors_init 9 = .ok (.aload_n 0, 1) := by decide +kernel
theorem d_Sensors_init_10 : decode bc_Sensors_init 10 = .ok (.iconst (-1), 1) := by decide +kernel
theorem d_Sensors_init_11 : decode bc_Sensors_init 11 = .ok (.putfield 13, 3) := by decide +kernel
theorem d_Sensors_init_14 : decode bc_Sensors_init 14 = .ok (.return_, 1) := by decide +kernel
abbrev ap_Sensors_init (M : XM) (u : (Int32 × Int32)) : XM := ((va_up (va_up M.1 2 (u.1)) 3 (u.2)), M.2)
def F_Sensors_init (M : XM) : (Int32 × Int32) := ((-1), (-1))
set_option maxHeartbeats 4000000 in
set_option maxRecDepth 100000 in
theorem c_Sensors_init (l : Launch) (dC : Nat → ClassId) (dI : Nat → Nat → Nat) (Z : Nat → ClassId) (A : Nat → Nat) (sz : Nat) (M : XM) : Met l y_Sensors_init (.code y_Sensors_init bc_Sensors_init 1 none :: xw) ({ frames := 1, cells := 0, slots := 0, locals := 20 }) (va_Pc [.ref (A 11)] (xB (dC, dI) xcl (xty Z) sz [(A 11, xc11 Z A M)])) (va_Qv (fun u : (Int32 × Int32) => u = F_Sensors_init M) (fun u => xE (dC, dI) xcl (xty Z) (va_A [(A 11, xc11 Z A M)] sz) [(A 11, xc11 Z A (ap_Sensors_init M u))]) (va_A [(A 11, xc11 Z A M)] sz)) 0 0 (va_A [(A 11, xc11 Z A M)] sz) := by
  refine Met.ofW (cc := bc_Sensors_init) (maxL := 1) (ret := none) (by decide) rfl ?_
  intro p e s m args below meth c s₁ B hml hv
  obtain ⟨rfl, hsz, hP, hK, hD0, hq⟩ := hv
  have hx := B.exec
  have hb := B.bytes
  have hr := B.returns
  have hts := atoms_spec (ws := (.code y_Sensors_init bc_Sensors_init 1 none :: xw)) B.pre
  have htt : ∀ w ∈ xw, w.before _ s = true := fun w h => hts w (List.mem_cons_of_mem _ h)
  have hown : s.vm.findClass "CentrifugeUnit$Sensors" = some m.cls := findClass_of_methodNamed B.named
  have hlocks := B.notSynchronized
  subst hsz
  have hD := hD0.self (sz := s.heap.size)
  generalize hAe : va_A [(A 11, xc11 Z A M)] s.heap.size = AA at hD ⊢
  have hA : ∀ q : Nat, s.heap.size ≤ q → AA q := fun q h => by rw [← hAe]; exact Or.inr h
  have hS : va_S AA s.heap s.heap [] := va_S.rf
  have hP : va_P (dC, dI) xcl [(A 11, .inr (7, [.int (M.1 2), .int (M.1 3), .int (M.1 4), .int (M.1 5), .int (M.1 6), .int (M.1 7)]))] s.heap := hP
  have hD : va_D AA [(A 11, .inr (7, [.int (M.1 2), .int (M.1 3), .int (M.1 4), .int (M.1 5), .int (M.1 6), .int (M.1 7)]))] := hD
  have hl := lv_entry ([.ref (A 11)]) (n := 1) (Nat.le_of_ble_eq_true rfl)
  rw [lg_entry_eq]
  generalize (lg_sl ([.ref (A 11)]) ++ List.replicate (1 - (lg_sl ([.ref (A 11)])).length) Slot.unset).toArray = ls at hl ⊢
  have hl : lv_has ls 1 [(0, .ref (A 11))] := hl
  refine lv_aload_n hx hb d_Sensors_init_0 rfl (lv_at hl 0 rfl) ?_
  refine W.objInit hx hb hown (htt _ tw_94) (htt _ tw_26) (htt _ tw_27) rfl (by rw [hml]; exact hl.1) rfl d_Sensors_init_1 (Nat.le_of_ble_eq_true rfl) (Nat.le_of_ble_eq_true rfl) ?_
  refine W.eq (g2 := F0 m 4 ls []) rfl ?_
  refine lv_aload_n hx hb d_Sensors_init_4 rfl (lv_at hl 0 rfl) ?_
  refine lv_iconst (v := (-1)) hx hb d_Sensors_init_5 (by decide) ?_
  refine va_put (D := (dC, dI)) (ci := 7) (v := .int (-1)) (ty := .int) (C := "CentrifugeUnit$Sensors") (T := xF7) (N := 6) hx hb htt xin7 xT7 xTo7 xNm7 hown hK hP hD hS 0 rfl rfl 0 (by decide) (htt _ tw_95) (fun _ h9 => h9) rfl (by decide +kernel) rfl rfl (Nat.le_of_ble_eq_true rfl) d_Sensors_init_6 (fun H locs hP hD hS => ?_)
  have hP : va_P (dC, dI) xcl [(A 11, .inr (7, [.int (-1), .int (M.1 3), .int (M.1 4), .int (M.1 5), .int (M.1 6), .int (M.1 7)]))] H := hP
  have hD : va_D AA [(A 11, .inr (7, [.int (-1), .int (M.1 3), .int (M.1 4), .int (M.1 5), .int (M.1 6), .int (M.1 7)]))] := hD
  refine lv_aload_n hx hb d_Sensors_init_9 rfl (lv_at hl 0 rfl) ?_
  refine lv_iconst (v := (-1)) hx hb d_Sensors_init_10 (by decide) ?_
  refine va_put (D := (dC, dI)) (ci := 7) (v := .int (-1)) (ty := .int) (C := "CentrifugeUnit$Sensors") (T := xF7) (N := 6) hx hb htt xin7 xT7 xTo7 xNm7 hown hK hP hD hS 0 rfl rfl 1 (by decide) (htt _ tw_97) (fun _ h9 => h9) rfl (by decide +kernel) rfl rfl (Nat.le_of_ble_eq_true rfl) d_Sensors_init_11 (fun H locs hP hD hS => ?_)
  have hP : va_P (dC, dI) xcl [(A 11, .inr (7, [.int (-1), .int (-1), .int (M.1 4), .int (M.1 5), .int (M.1 6), .int (M.1 7)]))] H := hP
  have hD : va_D AA [(A 11, .inr (7, [.int (-1), .int (-1), .int (M.1 4), .int (M.1 5), .int (M.1 6), .int (M.1 7)]))] := hD
  have hP9 := hP.sub (ws' := [(A 11, xc11 Z A (ap_Sensors_init M ((-1), (-1))))]) [0] rfl
  have hD9 := hD.sub (ws' := [(A 11, xc11 Z A (ap_Sensors_init M ((-1), (-1))))]) [0] (by decide) rfl
  exact W.vret hx hb hr (fun t ht hW => ⟨⟨((-1), (-1)), rfl, (by rw [F_Sensors_init]), xE_at hP9 hK hD9 ht hW⟩, hS.F ht⟩) hS.2.2 d_Sensors_init_14
abbrev bc_Run_init : ByteArray := prog_8_method_1_code
def y_Run_init : MethodName := ⟨"CentrifugeUnit$Run", "<init>", "()V"⟩
theorem d_Run_init_0 : decode bc_Run_init 0 = .ok (.aload_n 0, 1) := by decide +kernel
theorem d_Run_init_1 : decode bc_Run_init 1 = .ok (.invokespecial 3, 3) := by decide +kernel
theorem d_Run_init_4 : decode bc_Run_init 4 = .ok (.aload_n 0, 1) := by decide +kernel
theorem d_Run_init_5 : decode bc_Run_init 5 = .ok (.iconst (-1), 1) := by decide +kernel
theorem d_Run_init_6 : decode bc_Run_init 6 = .ok (.putfield 9, 3) := by decide +kernel
theorem d_Run_init_9 : decode bc_Run_init 9 = .ok (.return_, 1) := by decide +kernel
abbrev ap_Run_init (M : XM) (u : Int32) : XM := ((va_up M.1 23 u), M.2)
def F_Run_init (M : XM) : (Int32) := (-1)
set_option maxHeartbeats 4000000 in
set_option maxRecDepth 100000 in
theorem c_Run_init (l : Launch) (dC : Nat → ClassId) (dI : Nat → Nat → Nat) (Z : Nat → ClassId) (A : Nat → Nat) (sz : Nat) (M : XM) : Met l y_Run_init (.code y_Run_init bc_Run_init 1 none :: xw) ({ frames := 1, cells := 0, slots := 0, locals := 20 }) (va_Pc [.ref (A 19)] (xB (dC, dI) xcl (xty Z) sz [(A 19, xc19 Z A M)])) (va_Qv (fun u : Int32 => u = F_Run_init M) (fun u => xE (dC, dI) xcl (xty Z) (va_A [(A 19, xc19 Z A M)] sz) [(A 19, xc19 Z A (ap_Run_init M u))]) (va_A [(A 19, xc19 Z A M)] sz)) 0 0 (va_A [(A 19, xc19 Z A M)] sz) := by
  refine Met.ofW (cc := bc_Run_init) (maxL := 1) (ret := none) (by decide) rfl ?_
  intro p e s m args below meth c s₁ B hml hv
  obtain ⟨rfl, hsz, hP, hK, hD0, hq⟩ := hv
  have hx := B.exec
  have hb := B.bytes
  have hr := B.returns
  have hts := atoms_spec (ws := (.code y_Run_init bc_Run_init 1 none :: xw)) B.pre
  have htt : ∀ w ∈ xw, w.before _ s = true := fun w h => hts w (List.mem_cons_of_mem _ h)
  have hown : s.vm.findClass "CentrifugeUnit$Run" = some m.cls := findClass_of_methodNamed B.named
  have hlocks := B.notSynchronized
  subst hsz
  have hD := hD0.self (sz := s.heap.size)
  generalize hAe : va_A [(A 19, xc19 Z A M)] s.heap.size = AA at hD ⊢
  have hA : ∀ q : Nat, s.heap.size ≤ q → AA q := fun q h => by rw [← hAe]; exact Or.inr h
  have hS : va_S AA s.heap s.heap [] := va_S.rf
  have hP : va_P (dC, dI) xcl [(A 19, .inr (6, [.long (M.2.1 1), .long (M.2.1 2), .int (M.1 23), .int (M.1 24), .int (M.1 25), .int (M.1 26), .int (M.1 27), .int (M.1 28)]))] s.heap := hP
  have hD : va_D AA [(A 19, .inr (6, [.long (M.2.1 1), .long (M.2.1 2), .int (M.1 23), .int (M.1 24), .int (M.1 25), .int (M.1 26), .int (M.1 27), .int (M.1 28)]))] := hD
  have hl := lv_entry ([.ref (A 19)]) (n := 1) (Nat.le_of_ble_eq_true rfl)
  rw [lg_entry_eq]
  generalize (lg_sl ([.ref (A 19)]) ++ List.replicate (1 - (lg_sl ([.ref (A 19)])).length) Slot.unset).toArray = ls at hl ⊢
  have hl : lv_has ls 1 [(0, .ref (A 19))] := hl
  refine lv_aload_n hx hb d_Run_init_0 rfl (lv_at hl 0 rfl) ?_
  refine W.objInit hx hb hown (htt _ tw_193) (htt _ tw_26) (htt _ tw_27) rfl (by rw [hml]; exact hl.1) rfl d_Run_init_1 (Nat.le_of_ble_eq_true rfl) (Nat.le_of_ble_eq_true rfl) ?_
  refine W.eq (g2 := F0 m 4 ls []) rfl ?_
  refine lv_aload_n hx hb d_Run_init_4 rfl (lv_at hl 0 rfl) ?_
  refine lv_iconst (v := (-1)) hx hb d_Run_init_5 (by decide) ?_
  refine va_put (D := (dC, dI)) (ci := 6) (v := .int (-1)) (ty := .int) (C := "CentrifugeUnit$Run") (T := xF6) (N := 8) hx hb htt xin6 xT6 xTo6 xNm6 hown hK hP hD hS 0 rfl rfl 2 (by decide) (htt _ tw_199) (fun _ h9 => h9) rfl (by decide +kernel) rfl rfl (Nat.le_of_ble_eq_true rfl) d_Run_init_6 (fun H locs hP hD hS => ?_)
  have hP : va_P (dC, dI) xcl [(A 19, .inr (6, [.long (M.2.1 1), .long (M.2.1 2), .int (-1), .int (M.1 24), .int (M.1 25), .int (M.1 26), .int (M.1 27), .int (M.1 28)]))] H := hP
  have hD : va_D AA [(A 19, .inr (6, [.long (M.2.1 1), .long (M.2.1 2), .int (-1), .int (M.1 24), .int (M.1 25), .int (M.1 26), .int (M.1 27), .int (M.1 28)]))] := hD
  have hP9 := hP.sub (ws' := [(A 19, xc19 Z A (ap_Run_init M (-1)))]) [0] rfl
  have hD9 := hD.sub (ws' := [(A 19, xc19 Z A (ap_Run_init M (-1)))]) [0] (by decide) rfl
  exact W.vret hx hb hr (fun t ht hW => ⟨⟨(-1), rfl, (by rw [F_Run_init]), xE_at hP9 hK hD9 ht hW⟩, hS.F ht⟩) hS.2.2 d_Run_init_9
abbrev bc_Arrays_fill : ByteArray := prog_21_method_103_code
def y_Arrays_fill : MethodName := ⟨"java/util/Arrays", "fill", "([II)V"⟩
theorem d_Arrays_fill_0 : decode bc_Arrays_fill 0 = .ok (.iconst 0, 1) := by decide +kernel
theorem d_Arrays_fill_1 : decode bc_Arrays_fill 1 = .ok (.istore_n 2, 1) := by decide +kernel
theorem d_Arrays_fill_2 : decode bc_Arrays_fill 2 = .ok (.aload_n 0, 1) := by decide +kernel
theorem d_Arrays_fill_3 : decode bc_Arrays_fill 3 = .ok (.arraylength, 1) := by decide +kernel
theorem d_Arrays_fill_4 : decode bc_Arrays_fill 4 = .ok (.istore_n 3, 1) := by decide +kernel
theorem d_Arrays_fill_5 : decode bc_Arrays_fill 5 = .ok (.iload_n 2, 1) := by decide +kernel
theorem d_Arrays_fill_6 : decode bc_Arrays_fill 6 = .ok (.iload_n 3, 1) := by decide +kernel
theorem d_Arrays_fill_7 : decode bc_Arrays_fill 7 = .ok (.if_icmp .ge 13, 3) := by decide +kernel
theorem d_Arrays_fill_10 : decode bc_Arrays_fill 10 = .ok (.aload_n 0, 1) := by decide +kernel
theorem d_Arrays_fill_11 : decode bc_Arrays_fill 11 = .ok (.iload_n 2, 1) := by decide +kernel
theorem d_Arrays_fill_12 : decode bc_Arrays_fill 12 = .ok (.iload_n 1, 1) := by decide +kernel
theorem d_Arrays_fill_13 : decode bc_Arrays_fill 13 = .ok (.iastore, 1) := by decide +kernel
theorem d_Arrays_fill_14 : decode bc_Arrays_fill 14 = .ok (.iinc 2 1, 3) := by decide +kernel
theorem d_Arrays_fill_17 : decode bc_Arrays_fill 17 = .ok (.goto (-12), 3) := by decide +kernel
theorem d_Arrays_fill_20 : decode bc_Arrays_fill 20 = .ok (.return_, 1) := by decide +kernel
abbrev ap_Arrays_fill (M : XM) (u : (Nat → Int32)) : XM := (M.1, M.2.1, (va_up M.2.2.1 2 u), M.2.2.2)
def F_Arrays_fill (M : XM) (a1 : Int32) : ((Nat → Int32)) := (upd (upd (upd (upd (M.2.2.1 2) 0 a1) 1 a1) 2 a1) 3 a1)
set_option maxHeartbeats 4000000 in
set_option maxRecDepth 100000 in
theorem c_Arrays_fill (l : Launch) (dC : Nat → ClassId) (dI : Nat → Nat → Nat) (Z : Nat → ClassId) (A : Nat → Nat) (sz : Nat) (M : XM) (a1 : Int32) : Met l y_Arrays_fill (.code y_Arrays_fill bc_Arrays_fill 4 none :: xw) ({ frames := 0, cells := 0, slots := 0, locals := 0 }) (va_Pc [.ref (A 2), .int a1] (xB (dC, dI) xcl (xty Z) sz [(A 2, xc2 Z A M)])) (va_Qv (fun u : (Nat → Int32) => u = F_Arrays_fill M a1) (fun u => xE (dC, dI) xcl (xty Z) (va_A [(A 2, xc2 Z A M)] sz) [(A 2, xc2 Z A (ap_Arrays_fill M u))]) (va_A [(A 2, xc2 Z A M)] sz)) 0 0 (va_A [(A 2, xc2 Z A M)] sz) := by
  refine Met.ofW (cc := bc_Arrays_fill) (maxL := 4) (ret := none) (by decide) rfl ?_
  intro p e s m args below meth c s₁ B hml hv
  obtain ⟨rfl, hsz, hP, hK, hD0, hq⟩ := hv
  have hx := B.exec
  have hb := B.bytes
  have hr := B.returns
  have hts := atoms_spec (ws := (.code y_Arrays_fill bc_Arrays_fill 4 none :: xw)) B.pre
  have htt : ∀ w ∈ xw, w.before _ s = true := fun w h => hts w (List.mem_cons_of_mem _ h)
  have hown : s.vm.findClass "java/util/Arrays" = some m.cls := findClass_of_methodNamed B.named
  have hlocks := B.notSynchronized
  subst hsz
  have hD := hD0.self (sz := s.heap.size)
  generalize hAe : va_A [(A 2, xc2 Z A M)] s.heap.size = AA at hD ⊢
  have hA : ∀ q : Nat, s.heap.size ≤ q → AA q := fun q h => by rw [← hAe]; exact Or.inr h
  have hS : va_S AA s.heap s.heap [] := va_S.rf
  have hP : va_P (dC, dI) xcl [(A 2, .inl (Z 0, 4, .inl (M.2.2.1 2)))] s.heap := hP
  have hD : va_D AA [(A 2, .inl (Z 0, 4, .inl (M.2.2.1 2)))] := hD
  have hl := lv_entry ([.ref (A 2), .int a1]) (n := 4) (Nat.le_of_ble_eq_true rfl)
  rw [lg_entry_eq]
  generalize (lg_sl ([.ref (A 2), .int a1]) ++ List.replicate (4 - (lg_sl ([.ref (A 2), .int a1])).length) Slot.unset).toArray = ls at hl ⊢
  have hl : lv_has ls 4 [(0, .ref (A 2)), (1, .int a1)] := hl
  refine lv_iconst (v := 0) hx hb d_Arrays_fill_0 (by decide) ?_
  refine lv_istore_n (lv' := [(2, .int 0), (0, .ref (A 2)), (1, .int a1)]) hx hb d_Arrays_fill_1 rfl hl (by decide) rfl (fun ls hl => ?_)
  refine lv_aload_n hx hb d_Arrays_fill_2 rfl (lv_at hl 1 rfl) ?_
  refine va_alen (D := (dC, dI)) (v := 4) hx hb hK hP 0 0 rfl rfl rfl d_Arrays_fill_3 ?_
  refine lv_istore_n (lv' := [(3, .int 4), (2, .int 0), (0, .ref (A 2)), (1, .int a1)]) hx hb d_Arrays_fill_4 rfl hl (by decide) rfl (fun ls hl => ?_)
  refine lv_iload_n hx hb d_Arrays_fill_5 rfl (lv_at hl 1 rfl) ?_
  refine lv_iload_n hx hb d_Arrays_fill_6 rfl (lv_at hl 0 rfl) ?_
  refine lv_icmp_ge (tgt := 20) hx hb d_Arrays_fill_7 rfl (fun h => absurd h (by decide)) (fun _ => ?_)
  refine lv_aload_n hx hb d_Arrays_fill_10 rfl (lv_at hl 2 rfl) ?_
  refine lv_iload_n hx hb d_Arrays_fill_11 rfl (lv_at hl 1 rfl) ?_
  refine lv_iload_n hx hb d_Arrays_fill_12 rfl (lv_at hl 3 rfl) ?_
  refine va_iast (D := (dC, dI)) hx hb hK hP hD hS 0 0 rfl rfl (by unfold vp_in; decide) d_Arrays_fill_13 (fun H locs hP hD hS => ?_)
  have hP : va_P (dC, dI) xcl [(A 2, .inl (Z 0, 4, .inl (upd (M.2.2.1 2) 0 a1)))] H := hP
  have hD : va_D AA [(A 2, .inl (Z 0, 4, .inl (upd (M.2.2.1 2) 0 a1)))] := hD
  refine lv_iinc (k := 1) (v := 1) (lv' := [(2, .int 1), (3, .int 4), (0, .ref (A 2)), (1, .int a1)]) hx hb d_Arrays_fill_14 hl rfl (by decide) (by decide) rfl (fun ls hl => ?_)
  refine lv_goto (tgt := 5) hx hb d_Arrays_fill_17 rfl ?_
  refine lv_iload_n hx hb d_Arrays_fill_5 rfl (lv_at hl 0 rfl) ?_
  refine lv_iload_n hx hb d_Arrays_fill_6 rfl (lv_at hl 1 rfl) ?_
  refine lv_icmp_ge (tgt := 20) hx hb d_Arrays_fill_7 rfl (fun h => absurd h (by decide)) (fun _ => ?_)
  refine lv_aload_n hx hb d_Arrays_fill_10 rfl (lv_at hl 2 rfl) ?_
  refine lv_iload_n hx hb d_Arrays_fill_11 rfl (lv_at hl 0 rfl) ?_
  refine lv_iload_n hx hb d_Arrays_fill_12 rfl (lv_at hl 3 rfl) ?_
  refine va_iast (D := (dC, dI)) hx hb hK hP hD hS 0 0 rfl rfl (by unfold vp_in; decide) d_Arrays_fill_13 (fun H locs hP hD hS => ?_)
  have hP : va_P (dC, dI) xcl [(A 2, .inl (Z 0, 4, .inl (upd (upd (M.2.2.1 2) 0 a1) 1 a1)))] H := hP
  have hD : va_D AA [(A 2, .inl (Z 0, 4, .inl (upd (upd (M.2.2.1 2) 0 a1) 1 a1)))] := hD
  refine lv_iinc (k := 0) (v := 2) (lv' := [(2, .int 2), (3, .int 4), (0, .ref (A 2)), (1, .int a1)]) hx hb d_Arrays_fill_14 hl rfl (by decide) (by decide) rfl (fun ls hl => ?_)
  refine lv_goto (tgt := 5) hx hb d_Arrays_fill_17 rfl ?_
  refine lv_iload_n hx hb d_Arrays_fill_5 rfl (lv_at hl 0 rfl) ?_
  refine lv_iload_n hx hb d_Arrays_fill_6 rfl (lv_at hl 1 rfl) ?_
  refine lv_icmp_ge (tgt := 20) hx hb d_Arrays_fill_7 rfl (fun h => absurd h (by decide)) (fun _ => ?_)
  refine lv_aload_n hx hb d_Arrays_fill_10 rfl (lv_at hl 2 rfl) ?_
  refine lv_iload_n hx hb d_Arrays_fill_11 rfl (lv_at hl 0 rfl) ?_
  refine lv_iload_n hx hb d_Arrays_fill_12 rfl (lv_at hl 3 rfl) ?_
  refine va_iast (D := (dC, dI)) hx hb hK hP hD hS 0 0 rfl rfl (by unfold vp_in; decide) d_Arrays_fill_13 (fun H locs hP hD hS => ?_)
  have hP : va_P (dC, dI) xcl [(A 2, .inl (Z 0, 4, .inl (upd (upd (upd (M.2.2.1 2) 0 a1) 1 a1) 2 a1)))] H := hP
  have hD : va_D AA [(A 2, .inl (Z 0, 4, .inl (upd (upd (upd (M.2.2.1 2) 0 a1) 1 a1) 2 a1)))] := hD
  refine lv_iinc (k := 0) (v := 3) (lv' := [(2, .int 3), (3, .int 4), (0, .ref (A 2)), (1, .int a1)]) hx hb d_Arrays_fill_14 hl rfl (by decide) (by decide) rfl (fun ls hl => ?_)
  refine lv_goto (tgt := 5) hx hb d_Arrays_fill_17 rfl ?_
  refine lv_iload_n hx hb d_Arrays_fill_5 rfl (lv_at hl 0 rfl) ?_
  refine lv_iload_n hx hb d_Arrays_fill_6 rfl (lv_at hl 1 rfl) ?_
  refine lv_icmp_ge (tgt := 20) hx hb d_Arrays_fill_7 rfl (fun h => absurd h (by decide)) (fun _ => ?_)
  refine lv_aload_n hx hb d_Arrays_fill_10 rfl (lv_at hl 2 rfl) ?_
  refine lv_iload_n hx hb d_Arrays_fill_11 rfl (lv_at hl 0 rfl) ?_
  refine lv_iload_n hx hb d_Arrays_fill_12 rfl (lv_at hl 3 rfl) ?_
  refine va_iast (D := (dC, dI)) hx hb hK hP hD hS 0 0 rfl rfl (by unfold vp_in; decide) d_Arrays_fill_13 (fun H locs hP hD hS => ?_)
  have hP : va_P (dC, dI) xcl [(A 2, .inl (Z 0, 4, .inl (upd (upd (upd (upd (M.2.2.1 2) 0 a1) 1 a1) 2 a1) 3 a1)))] H := hP
  have hD : va_D AA [(A 2, .inl (Z 0, 4, .inl (upd (upd (upd (upd (M.2.2.1 2) 0 a1) 1 a1) 2 a1) 3 a1)))] := hD
  refine lv_iinc (k := 0) (v := 4) (lv' := [(2, .int 4), (3, .int 4), (0, .ref (A 2)), (1, .int a1)]) hx hb d_Arrays_fill_14 hl rfl (by decide) (by decide) rfl (fun ls hl => ?_)
  refine lv_goto (tgt := 5) hx hb d_Arrays_fill_17 rfl ?_
  refine lv_iload_n hx hb d_Arrays_fill_5 rfl (lv_at hl 0 rfl) ?_
  refine lv_iload_n hx hb d_Arrays_fill_6 rfl (lv_at hl 1 rfl) ?_
  refine lv_icmp_ge (tgt := 20) hx hb d_Arrays_fill_7 rfl (fun _ => ?_) (fun h => absurd h (by decide))
  have hP9 := hP.sub (ws' := [(A 2, xc2 Z A (ap_Arrays_fill M (upd (upd (upd (upd (M.2.2.1 2) 0 a1) 1 a1) 2 a1) 3 a1)))]) [0] rfl
  have hD9 := hD.sub (ws' := [(A 2, xc2 Z A (ap_Arrays_fill M (upd (upd (upd (upd (M.2.2.1 2) 0 a1) 1 a1) 2 a1) 3 a1)))]) [0] (by decide) rfl
  exact W.vret hx hb hr (fun t ht hW => ⟨⟨(upd (upd (upd (upd (M.2.2.1 2) 0 a1) 1 a1) 2 a1) 3 a1), rfl, (by rw [F_Arrays_fill]), xE_at hP9 hK hD9 ht hW⟩, hS.F ht⟩) hS.2.2 d_Arrays_fill_20
abbrev bc_Watch_init : ByteArray := prog_10_method_1_code
def y_Watch_init : MethodName := ⟨"CentrifugeUnit$Watch", "<init>", "()V"⟩
theorem d_Watch_init_0 : decode bc_Watch_init 0 = .ok (.aload_n 0, 1) := by decide +kernel
theorem d_Watch_init_1 : decode bc_Watch_init 1 = .ok (.invokespecial 1, 3) := by decide +kernel
theorem d_Watch_init_4 : decode bc_Watch_init 4 = .ok (.return_, 1) := by decide +kernel
set_option maxHeartbeats 4000000 in
set_option maxRecDepth 100000 in
theorem c_Watch_init (l : Launch) (dC : Nat → ClassId) (dI : Nat → Nat → Nat) (Z : Nat → ClassId) (h0 : Nat) (sz : Nat) : Met l y_Watch_init (.code y_Watch_init bc_Watch_init 1 none :: xw) ({ frames := 1, cells := 0, slots := 0, locals := 20 }) (va_Pc [.ref h0] (xB (dC, dI) xcl (xty Z) sz [(h0, .inr (8, [.int 0, .int 0, .int 0, .int 0]))])) (va_Qv (fun _ : Unit => True) (fun u => xE (dC, dI) xcl (xty Z) (va_A [(h0, .inr (8, [.int 0, .int 0, .int 0, .int 0]))] sz) [(h0, .inr (8, [.int 0, .int 0, .int 0, .int 0]))]) (va_A [(h0, .inr (8, [.int 0, .int 0, .int 0, .int 0]))] sz)) 0 0 (va_A [(h0, .inr (8, [.int 0, .int 0, .int 0, .int 0]))] sz) := by
  refine Met.ofW (cc := bc_Watch_init) (maxL := 1) (ret := none) (by decide) rfl ?_
  intro p e s m args below meth c s₁ B hml hv
  obtain ⟨rfl, hsz, hP, hK, hD0, hq⟩ := hv
  have hx := B.exec
  have hb := B.bytes
  have hr := B.returns
  have hts := atoms_spec (ws := (.code y_Watch_init bc_Watch_init 1 none :: xw)) B.pre
  have htt : ∀ w ∈ xw, w.before _ s = true := fun w h => hts w (List.mem_cons_of_mem _ h)
  have hown : s.vm.findClass "CentrifugeUnit$Watch" = some m.cls := findClass_of_methodNamed B.named
  have hlocks := B.notSynchronized
  have hin : meth.name = "<init>" := (name_of_methodNamed B.named B.method).1
  subst hsz
  have hD := hD0.self (sz := s.heap.size)
  generalize hAe : va_A [(h0, .inr (8, [.int 0, .int 0, .int 0, .int 0]))] s.heap.size = AA at hD ⊢
  have hA : ∀ q : Nat, s.heap.size ≤ q → AA q := fun q h => by rw [← hAe]; exact Or.inr h
  have hS : va_S AA s.heap s.heap [] := va_S.rf
  have hl := lv_entry ([.ref h0]) (n := 1) (Nat.le_of_ble_eq_true rfl)
  rw [lg_entry_eq]
  generalize (lg_sl ([.ref h0]) ++ List.replicate (1 - (lg_sl ([.ref h0])).length) Slot.unset).toArray = ls at hl ⊢
  have hl : lv_has ls 1 [(0, .ref h0)] := hl
  refine lv_aload_n hx hb d_Watch_init_0 rfl (lv_at hl 0 rfl) ?_
  refine W.objInit hx hb hown (htt _ tw_173) (htt _ tw_26) (htt _ tw_27) rfl (by rw [hml]; exact hl.1) rfl d_Watch_init_1 (Nat.le_of_ble_eq_true rfl) (Nat.le_of_ble_eq_true rfl) ?_
  refine W.eq (g2 := F0 m 4 ls []) rfl ?_
  have hP9 := hP.sub (ws' := [(h0, .inr (8, [.int 0, .int 0, .int 0, .int 0]))]) [0] rfl
  have hD9 := hD.sub (ws' := [(h0, .inr (8, [.int 0, .int 0, .int 0, .int 0]))]) [0] (by decide) rfl
  exact W.vret hx hb hr (fun t ht hW => ⟨⟨(), rfl, trivial, xE_at hP9 hK hD9 ht hW⟩, hS.F ht⟩) hS.2.2 d_Watch_init_4
abbrev bc_Model_init : ByteArray := prog_4_method_1_code
def y_Model_init : MethodName := ⟨"CentrifugeUnit$Model", "<init>", "()V"⟩
theorem d_Model_init_0 : decode bc_Model_init 0 = .ok (.aload_n 0, 1) := by decide +kernel
theorem d_Model_init_1 : decode bc_Model_init 1 = .ok (.invokespecial 1, 3) := by decide +kernel
theorem d_Model_init_4 : decode bc_Model_init 4 = .ok (.return_, 1) := by decide +kernel
set_option maxHeartbeats 4000000 in
set_option maxRecDepth 100000 in
theorem c_Model_init (l : Launch) (dC : Nat → ClassId) (dI : Nat → Nat → Nat) (Z : Nat → ClassId) (h0 : Nat) (sz : Nat) : Met l y_Model_init (.code y_Model_init bc_Model_init 1 none :: xw) ({ frames := 1, cells := 0, slots := 0, locals := 20 }) (va_Pc [.ref h0] (xB (dC, dI) xcl (xty Z) sz [(h0, .inr (2, [.long 0]))])) (va_Qv (fun _ : Unit => True) (fun u => xE (dC, dI) xcl (xty Z) (va_A [(h0, .inr (2, [.long 0]))] sz) [(h0, .inr (2, [.long 0]))]) (va_A [(h0, .inr (2, [.long 0]))] sz)) 0 0 (va_A [(h0, .inr (2, [.long 0]))] sz) := by
  refine Met.ofW (cc := bc_Model_init) (maxL := 1) (ret := none) (by decide) rfl ?_
  intro p e s m args below meth c s₁ B hml hv
  obtain ⟨rfl, hsz, hP, hK, hD0, hq⟩ := hv
  have hx := B.exec
  have hb := B.bytes
  have hr := B.returns
  have hts := atoms_spec (ws := (.code y_Model_init bc_Model_init 1 none :: xw)) B.pre
  have htt : ∀ w ∈ xw, w.before _ s = true := fun w h => hts w (List.mem_cons_of_mem _ h)
  have hown : s.vm.findClass "CentrifugeUnit$Model" = some m.cls := findClass_of_methodNamed B.named
  have hlocks := B.notSynchronized
  have hin : meth.name = "<init>" := (name_of_methodNamed B.named B.method).1
  subst hsz
  have hD := hD0.self (sz := s.heap.size)
  generalize hAe : va_A [(h0, .inr (2, [.long 0]))] s.heap.size = AA at hD ⊢
  have hA : ∀ q : Nat, s.heap.size ≤ q → AA q := fun q h => by rw [← hAe]; exact Or.inr h
  have hS : va_S AA s.heap s.heap [] := va_S.rf
  have hl := lv_entry ([.ref h0]) (n := 1) (Nat.le_of_ble_eq_true rfl)
  rw [lg_entry_eq]
  generalize (lg_sl ([.ref h0]) ++ List.replicate (1 - (lg_sl ([.ref h0])).length) Slot.unset).toArray = ls at hl ⊢
  have hl : lv_has ls 1 [(0, .ref h0)] := hl
  refine lv_aload_n hx hb d_Model_init_0 rfl (lv_at hl 0 rfl) ?_
  refine W.objInit hx hb hown (htt _ tw_83) (htt _ tw_26) (htt _ tw_27) rfl (by rw [hml]; exact hl.1) rfl d_Model_init_1 (Nat.le_of_ble_eq_true rfl) (Nat.le_of_ble_eq_true rfl) ?_
  refine W.eq (g2 := F0 m 4 ls []) rfl ?_
  have hP9 := hP.sub (ws' := [(h0, .inr (2, [.long 0]))]) [0] rfl
  have hD9 := hD.sub (ws' := [(h0, .inr (2, [.long 0]))]) [0] (by decide) rfl
  exact W.vret hx hb hr (fun t ht hW => ⟨⟨(), rfl, trivial, xE_at hP9 hK hD9 ht hW⟩, hS.F ht⟩) hS.2.2 d_Model_init_4
abbrev bc_Program_init : ByteArray := prog_5_method_1_code
def y_Program_init : MethodName := ⟨"CentrifugeUnit$Program", "<init>", "()V"⟩
theorem d_Program_init_0 : decode bc_Program_init 0 = .ok (.aload_n 0, 1) := by decide +kernel
theorem d_Program_init_1 : decode bc_Program_init 1 = .ok (.invokespecial 1, 3) := by decide +kernel
theorem d_Program_init_4 : decode bc_Program_init 4 = .ok (.aload_n 0, 1) := by decide +kernel
theorem d_Program_init_5 : decode bc_Program_init 5 = .ok (.bipush 12, 2) := by decide +kernel
theorem d_Program_init_7 : decode bc_Program_init 7 = .ok (.newarray .int, 2) := by decide +kernel
theorem d_Program_init_9 : decode bc_Program_init 9 = .ok (.putfield 9, 3) := by decide +kernel
theorem d_Program_init_12 : decode bc_Program_init 12 = .ok (.aload_n 0, 1) := by decide +kernel
theorem d_Program_init_13 : decode bc_Program_init 13 = .ok (.bipush 12, 2) := by decide +kernel
theorem d_Program_init_15 : decode bc_Program_init 15 = .ok (.newarray .int, 2) := by decide +kernel
theorem d_Program_init_17 : decode bc_Program_init 17 = .ok (.putfield 13, 3) := by decide +kernel
theorem d_Program_init_20 : decode bc_Program_init 20 = .ok (.aload_n 0, 1) := by decide +kernel
theorem d_Program_init_21 : decode bc_Program_init 21 = .ok (.bipush 12, 2) := by decide +kernel
theorem d_Program_init_23 : decode bc_Program_init 23 = .ok (.newarray .int, 2) := by decide +kernel
theorem d_Program_init_25 : decode bc_Program_init 25 = .ok (.putfield 16, 3) := by decide +kernel
theorem d_Program_init_28 : decode bc_Program_init 28 = .ok (.return_, 1) := by decide +kernel
set_option maxHeartbeats 4000000 in
set_option maxRecDepth 100000 in
theorem c_Program_init (l : Launch) (dC : Nat → ClassId) (dI : Nat → Nat → Nat) (Z : Nat → ClassId) (h0 : Nat) (sz : Nat) : Met l y_Program_init (.code y_Program_init bc_Program_init 1 none :: xw) ({ frames := 1, cells := 3, slots := 36, locals := 20 }) (va_Pc [.ref h0] (xB (dC, dI) xcl (xty Z) sz [(h0, .inr (3, [.null, .null, .null, .int 0]))])) (va_Qv (fun _ : Nat × Nat × Nat => True) (fun u => xE (dC, dI) xcl (xty Z) (va_A [(h0, .inr (3, [.null, .null, .null, .int 0]))] sz) [(h0, .inr (3, [.ref (u.1), .ref (u.2.1), .ref (u.2.2), .int 0])), ((u.1), .inl (Z 0, 12, .inl (fun _ => 0))), ((u.2.1), .inl (Z 0, 12, .inl (fun _ => 0))), ((u.2.2), .inl (Z 0, 12, .inl (fun _ => 0)))]) (va_A [(h0, .inr (3, [.null, .null, .null, .int 0]))] sz)) 3 36 (va_A [(h0, .inr (3, [.null, .null, .null, .int 0]))] sz) := by
  refine Met.ofW (cc := bc_Program_init) (maxL := 1) (ret := none) (by decide) rfl ?_
  intro p e s m args below meth c s₁ B hml hv
  obtain ⟨rfl, hsz, hP, hK, hD0, hq⟩ := hv
  have hx := B.exec
  have hb := B.bytes
  have hr := B.returns
  have hts := atoms_spec (ws := (.code y_Program_init bc_Program_init 1 none :: xw)) B.pre
  have htt : ∀ w ∈ xw, w.before _ s = true := fun w h => hts w (List.mem_cons_of_mem _ h)
  have hown : s.vm.findClass "CentrifugeUnit$Program" = some m.cls := findClass_of_methodNamed B.named
  have hlocks := B.notSynchronized
  have hin : meth.name = "<init>" := (name_of_methodNamed B.named B.method).1
  subst hsz
  have hD := hD0.self (sz := s.heap.size)
  generalize hAe : va_A [(h0, .inr (3, [.null, .null, .null, .int 0]))] s.heap.size = AA at hD ⊢
  have hA : ∀ q : Nat, s.heap.size ≤ q → AA q := fun q h => by rw [← hAe]; exact Or.inr h
  have hS : va_S AA s.heap s.heap [] := va_S.rf
  have hl := lv_entry ([.ref h0]) (n := 1) (Nat.le_of_ble_eq_true rfl)
  rw [lg_entry_eq]
  generalize (lg_sl ([.ref h0]) ++ List.replicate (1 - (lg_sl ([.ref h0])).length) Slot.unset).toArray = ls at hl ⊢
  have hl : lv_has ls 1 [(0, .ref h0)] := hl
  refine lv_aload_n hx hb d_Program_init_0 rfl (lv_at hl 0 rfl) ?_
  refine W.objInit hx hb hown (htt _ tw_60) (htt _ tw_26) (htt _ tw_27) rfl (by rw [hml]; exact hl.1) rfl d_Program_init_1 (Nat.le_of_ble_eq_true rfl) (Nat.le_of_ble_eq_true rfl) ?_
  refine W.eq (g2 := F0 m 4 ls []) rfl ?_
  refine lv_aload_n hx hb d_Program_init_4 rfl (lv_at hl 0 rfl) ?_
  refine lv_bipush (v := 12) hx hb d_Program_init_5 (by decide) ?_
  refine va_newa (atype := .int) (ty := .int) (a0 := (12, .inl (fun _ => 0))) (N' := 12) hx hb (htt _ tw_54) rfl hK hP hD hS hA (fun _ => rfl) (by decide) (by decide) (by decide) (Nat.le_of_ble_eq_true rfl) (Nat.le_of_ble_eq_true rfl) d_Program_init_7 (fun q7 cA H hK1 hP hD hS => ?_)
  obtain rfl : cA = Z 0 := Option.some.inj ((hK1.2 3 _ rfl).2.symm.trans (hK1.2 0 _ rfl).2)
  clear hK1
  have hP : va_P (dC, dI) xcl [(h0, .inr (3, [.null, .null, .null, .int 0])), (q7, .inl (Z 0, 12, .inl (fun _ => 0)))] H := hP
  have hD : va_D AA [(h0, .inr (3, [.null, .null, .null, .int 0])), (q7, .inl (Z 0, 12, .inl (fun _ => 0)))] := hD
  refine va_putF (D := (dC, dI)) (ci := 3) (v := .ref q7) (ty := (.array .int)) (C := "CentrifugeUnit$Program") (T := xF3) (N := 4) hx hb htt xin3 xT3 xTo3 xNm3 hown hK hP hD hS 0 rfl rfl 0 (by decide) (htt _ tw_61) (fun _ h9 => h9) rfl hin rfl (by decide +kernel) rfl rfl (Nat.le_of_ble_eq_true rfl) d_Program_init_9 (fun H locs hP hD hS => ?_)
  have hP : va_P (dC, dI) xcl [(h0, .inr (3, [.ref q7, .null, .null, .int 0])), (q7, .inl (Z 0, 12, .inl (fun _ => 0)))] H := hP
  have hD : va_D AA [(h0, .inr (3, [.ref q7, .null, .null, .int 0])), (q7, .inl (Z 0, 12, .inl (fun _ => 0)))] := hD
  refine lv_aload_n hx hb d_Program_init_12 rfl (lv_at hl 0 rfl) ?_
  refine lv_bipush (v := 12) hx hb d_Program_init_13 (by decide) ?_
  refine va_newa (atype := .int) (ty := .int) (a0 := (12, .inl (fun _ => 0))) (N' := 12) hx hb (htt _ tw_54) rfl hK hP hD hS hA (fun _ => rfl) (by decide) (by decide) (by decide) (Nat.le_of_ble_eq_true rfl) (Nat.le_of_ble_eq_true rfl) d_Program_init_15 (fun q8 cA H hK1 hP hD hS => ?_)
  obtain rfl : cA = Z 0 := Option.some.inj ((hK1.2 3 _ rfl).2.symm.trans (hK1.2 0 _ rfl).2)
  clear hK1
  have hP : va_P (dC, dI) xcl [(h0, .inr (3, [.ref q7, .null, .null, .int 0])), (q7, .inl (Z 0, 12, .inl (fun _ => 0))), (q8, .inl (Z 0, 12, .inl (fun _ => 0)))] H := hP
  have hD : va_D AA [(h0, .inr (3, [.ref q7, .null, .null, .int 0])), (q7, .inl (Z 0, 12, .inl (fun _ => 0))), (q8, .inl (Z 0, 12, .inl (fun _ => 0)))] := hD
  refine va_putF (D := (dC, dI)) (ci := 3) (v := .ref q8) (ty := (.array .int)) (C := "CentrifugeUnit$Program") (T := xF3) (N := 4) hx hb htt xin3 xT3 xTo3 xNm3 hown hK hP hD hS 0 rfl rfl 1 (by decide) (htt _ tw_63) (fun _ h9 => h9) rfl hin rfl (by decide +kernel) rfl rfl (Nat.le_of_ble_eq_true rfl) d_Program_init_17 (fun H locs hP hD hS => ?_)
  have hP : va_P (dC, dI) xcl [(h0, .inr (3, [.ref q7, .ref q8, .null, .int 0])), (q7, .inl (Z 0, 12, .inl (fun _ => 0))), (q8, .inl (Z 0, 12, .inl (fun _ => 0)))] H := hP
  have hD : va_D AA [(h0, .inr (3, [.ref q7, .ref q8, .null, .int 0])), (q7, .inl (Z 0, 12, .inl (fun _ => 0))), (q8, .inl (Z 0, 12, .inl (fun _ => 0)))] := hD
  refine lv_aload_n hx hb d_Program_init_20 rfl (lv_at hl 0 rfl) ?_
  refine lv_bipush (v := 12) hx hb d_Program_init_21 (by decide) ?_
  refine va_newa (atype := .int) (ty := .int) (a0 := (12, .inl (fun _ => 0))) (N' := 12) hx hb (htt _ tw_54) rfl hK hP hD hS hA (fun _ => rfl) (by decide) (by decide) (by decide) (Nat.le_of_ble_eq_true rfl) (Nat.le_of_ble_eq_true rfl) d_Program_init_23 (fun q9 cA H hK1 hP hD hS => ?_)
  obtain rfl : cA = Z 0 := Option.some.inj ((hK1.2 3 _ rfl).2.symm.trans (hK1.2 0 _ rfl).2)
  clear hK1
  have hP : va_P (dC, dI) xcl [(h0, .inr (3, [.ref q7, .ref q8, .null, .int 0])), (q7, .inl (Z 0, 12, .inl (fun _ => 0))), (q8, .inl (Z 0, 12, .inl (fun _ => 0))), (q9, .inl (Z 0, 12, .inl (fun _ => 0)))] H := hP
  have hD : va_D AA [(h0, .inr (3, [.ref q7, .ref q8, .null, .int 0])), (q7, .inl (Z 0, 12, .inl (fun _ => 0))), (q8, .inl (Z 0, 12, .inl (fun _ => 0))), (q9, .inl (Z 0, 12, .inl (fun _ => 0)))] := hD
  refine va_putF (D := (dC, dI)) (ci := 3) (v := .ref q9) (ty := (.array .int)) (C := "CentrifugeUnit$Program") (T := xF3) (N := 4) hx hb htt xin3 xT3 xTo3 xNm3 hown hK hP hD hS 0 rfl rfl 2 (by decide) (htt _ tw_65) (fun _ h9 => h9) rfl hin rfl (by decide +kernel) rfl rfl (Nat.le_of_ble_eq_true rfl) d_Program_init_25 (fun H locs hP hD hS => ?_)
  have hP : va_P (dC, dI) xcl [(h0, .inr (3, [.ref q7, .ref q8, .ref q9, .int 0])), (q7, .inl (Z 0, 12, .inl (fun _ => 0))), (q8, .inl (Z 0, 12, .inl (fun _ => 0))), (q9, .inl (Z 0, 12, .inl (fun _ => 0)))] H := hP
  have hD : va_D AA [(h0, .inr (3, [.ref q7, .ref q8, .ref q9, .int 0])), (q7, .inl (Z 0, 12, .inl (fun _ => 0))), (q8, .inl (Z 0, 12, .inl (fun _ => 0))), (q9, .inl (Z 0, 12, .inl (fun _ => 0)))] := hD
  have hP9 := hP.sub (ws' := [(h0, .inr (3, [.ref q7, .ref q8, .ref q9, .int 0])), (q7, .inl (Z 0, 12, .inl (fun _ => 0))), (q8, .inl (Z 0, 12, .inl (fun _ => 0))), (q9, .inl (Z 0, 12, .inl (fun _ => 0)))]) [0, 1, 2, 3] rfl
  have hD9 := hD.sub (ws' := [(h0, .inr (3, [.ref q7, .ref q8, .ref q9, .int 0])), (q7, .inl (Z 0, 12, .inl (fun _ => 0))), (q8, .inl (Z 0, 12, .inl (fun _ => 0))), (q9, .inl (Z 0, 12, .inl (fun _ => 0)))]) [0, 1, 2, 3] (by decide) rfl
  exact W.vret hx hb hr (fun t ht hW => ⟨⟨(q7, q8, q9), rfl, trivial, xE_at hP9 hK hD9 ht hW⟩, hS.F ht⟩) hS.2.2 d_Program_init_28
abbrev bc_Records_init : ByteArray := prog_6_method_1_code
def y_Records_init : MethodName := ⟨"CentrifugeUnit$Records", "<init>", "()V"⟩
theorem d_Records_init_0 : decode bc_Records_init 0 = .ok (.aload_n 0, 1) := by decide +kernel
theorem d_Records_init_1 : decode bc_Records_init 1 = .ok (.invokespecial 1, 3) := by decide +kernel
theorem d_Records_init_4 : decode bc_Records_init 4 = .ok (.aload_n 0, 1) := by decide +kernel
theorem d_Records_init_5 : decode bc_Records_init 5 = .ok (.bipush 16, 2) := by decide +kernel
theorem d_Records_init_7 : decode bc_Records_init 7 = .ok (.newarray .int, 2) := by decide +kernel
theorem d_Records_init_9 : decode bc_Records_init 9 = .ok (.putfield 9, 3) := by decide +kernel
theorem d_Records_init_12 : decode bc_Records_init 12 = .ok (.aload_n 0, 1) := by decide +kernel
theorem d_Records_init_13 : decode bc_Records_init 13 = .ok (.bipush 16, 2) := by decide +kernel
theorem d_Records_init_15 : decode bc_Records_init 15 = .ok (.newarray .long, 2) := by decide +kernel
theorem d_Records_init_17 : decode bc_Records_init 17 = .ok (.putfield 13, 3) := by decide +kernel
theorem d_Records_init_20 : decode bc_Records_init 20 = .ok (.aload_n 0, 1) := by decide +kernel
theorem d_Records_init_21 : decode bc_Records_init 21 = .ok (.bipush 16, 2) := by decide +kernel
theorem d_Records_init_23 : decode bc_Records_init 23 = .ok (.newarray .int, 2) := by decide +kernel
theorem d_Records_init_25 : decode bc_Records_init 25 = .ok (.putfield 17, 3) := by decide +kernel
theorem d_Records_init_28 : decode bc_Records_init 28 = .ok (.return_, 1) := by decide +kernel
set_option maxHeartbeats 4000000 in
set_option maxRecDepth 100000 in
theorem c_Records_init (l : Launch) (dC : Nat → ClassId) (dI : Nat → Nat → Nat) (Z : Nat → ClassId) (h0 : Nat) (sz : Nat) : Met l y_Records_init (.code y_Records_init bc_Records_init 1 none :: xw) ({ frames := 1, cells := 3, slots := 48, locals := 20 }) (va_Pc [.ref h0] (xB (dC, dI) xcl (xty Z) sz [(h0, .inr (4, [.null, .null, .null, .int 0]))])) (va_Qv (fun _ : Nat × Nat × Nat => True) (fun u => xE (dC, dI) xcl (xty Z) (va_A [(h0, .inr (4, [.null, .null, .null, .int 0]))] sz) [(h0, .inr (4, [.ref (u.1), .ref (u.2.1), .ref (u.2.2), .int 0])), ((u.1), .inl (Z 0, 16, .inl (fun _ => 0))), ((u.2.1), .inl (Z 1, 16, .inr (.inl (fun _ => 0)))), ((u.2.2), .inl (Z 0, 16, .inl (fun _ => 0)))]) (va_A [(h0, .inr (4, [.null, .null, .null, .int 0]))] sz)) 3 48 (va_A [(h0, .inr (4, [.null, .null, .null, .int 0]))] sz) := by
  refine Met.ofW (cc := bc_Records_init) (maxL := 1) (ret := none) (by decide) rfl ?_
  intro p e s m args below meth c s₁ B hml hv
  obtain ⟨rfl, hsz, hP, hK, hD0, hq⟩ := hv
  have hx := B.exec
  have hb := B.bytes
  have hr := B.returns
  have hts := atoms_spec (ws := (.code y_Records_init bc_Records_init 1 none :: xw)) B.pre
  have htt : ∀ w ∈ xw, w.before _ s = true := fun w h => hts w (List.mem_cons_of_mem _ h)
  have hown : s.vm.findClass "CentrifugeUnit$Records" = some m.cls := findClass_of_methodNamed B.named
  have hlocks := B.notSynchronized
  have hin : meth.name = "<init>" := (name_of_methodNamed B.named B.method).1
  subst hsz
  have hD := hD0.self (sz := s.heap.size)
  generalize hAe : va_A [(h0, .inr (4, [.null, .null, .null, .int 0]))] s.heap.size = AA at hD ⊢
  have hA : ∀ q : Nat, s.heap.size ≤ q → AA q := fun q h => by rw [← hAe]; exact Or.inr h
  have hS : va_S AA s.heap s.heap [] := va_S.rf
  have hl := lv_entry ([.ref h0]) (n := 1) (Nat.le_of_ble_eq_true rfl)
  rw [lg_entry_eq]
  generalize (lg_sl ([.ref h0]) ++ List.replicate (1 - (lg_sl ([.ref h0])).length) Slot.unset).toArray = ls at hl ⊢
  have hl : lv_has ls 1 [(0, .ref h0)] := hl
  refine lv_aload_n hx hb d_Records_init_0 rfl (lv_at hl 0 rfl) ?_
  refine W.objInit hx hb hown (htt _ tw_146) (htt _ tw_26) (htt _ tw_27) rfl (by rw [hml]; exact hl.1) rfl d_Records_init_1 (Nat.le_of_ble_eq_true rfl) (Nat.le_of_ble_eq_true rfl) ?_
  refine W.eq (g2 := F0 m 4 ls []) rfl ?_
  refine lv_aload_n hx hb d_Records_init_4 rfl (lv_at hl 0 rfl) ?_
  refine lv_bipush (v := 16) hx hb d_Records_init_5 (by decide) ?_
  refine va_newa (atype := .int) (ty := .int) (a0 := (16, .inl (fun _ => 0))) (N' := 16) hx hb (htt _ tw_54) rfl hK hP hD hS hA (fun _ => rfl) (by decide) (by decide) (by decide) (Nat.le_of_ble_eq_true rfl) (Nat.le_of_ble_eq_true rfl) d_Records_init_7 (fun q14 cA H hK1 hP hD hS => ?_)
  obtain rfl : cA = Z 0 := Option.some.inj ((hK1.2 3 _ rfl).2.symm.trans (hK1.2 0 _ rfl).2)
  clear hK1
  have hP : va_P (dC, dI) xcl [(h0, .inr (4, [.null, .null, .null, .int 0])), (q14, .inl (Z 0, 16, .inl (fun _ => 0)))] H := hP
  have hD : va_D AA [(h0, .inr (4, [.null, .null, .null, .int 0])), (q14, .inl (Z 0, 16, .inl (fun _ => 0)))] := hD
  refine va_putF (D := (dC, dI)) (ci := 4) (v := .ref q14) (ty := (.array .int)) (C := "CentrifugeUnit$Records") (T := xF4) (N := 4) hx hb htt xin4 xT4 xTo4 xNm4 hown hK hP hD hS 0 rfl rfl 0 (by decide) (htt _ tw_147) (fun _ h9 => h9) rfl hin rfl (by decide +kernel) rfl rfl (Nat.le_of_ble_eq_true rfl) d_Records_init_9 (fun H locs hP hD hS => ?_)
  have hP : va_P (dC, dI) xcl [(h0, .inr (4, [.ref q14, .null, .null, .int 0])), (q14, .inl (Z 0, 16, .inl (fun _ => 0)))] H := hP
  have hD : va_D AA [(h0, .inr (4, [.ref q14, .null, .null, .int 0])), (q14, .inl (Z 0, 16, .inl (fun _ => 0)))] := hD
  refine lv_aload_n hx hb d_Records_init_12 rfl (lv_at hl 0 rfl) ?_
  refine lv_bipush (v := 16) hx hb d_Records_init_13 (by decide) ?_
  refine va_newa (atype := .long) (ty := .long) (a0 := (16, .inr (.inl (fun _ => 0)))) (N' := 16) hx hb (htt _ tw_161) rfl hK hP hD hS hA (fun _ => rfl) (by decide) (by decide) (by decide) (Nat.le_of_ble_eq_true rfl) (Nat.le_of_ble_eq_true rfl) d_Records_init_15 (fun q15 cA H hK1 hP hD hS => ?_)
  obtain rfl : cA = Z 1 := Option.some.inj ((hK1.2 3 _ rfl).2.symm.trans (hK1.2 1 _ rfl).2)
  clear hK1
  have hP : va_P (dC, dI) xcl [(h0, .inr (4, [.ref q14, .null, .null, .int 0])), (q14, .inl (Z 0, 16, .inl (fun _ => 0))), (q15, .inl (Z 1, 16, .inr (.inl (fun _ => 0))))] H := hP
  have hD : va_D AA [(h0, .inr (4, [.ref q14, .null, .null, .int 0])), (q14, .inl (Z 0, 16, .inl (fun _ => 0))), (q15, .inl (Z 1, 16, .inr (.inl (fun _ => 0))))] := hD
  refine va_putF (D := (dC, dI)) (ci := 4) (v := .ref q15) (ty := (.array .long)) (C := "CentrifugeUnit$Records") (T := xF4) (N := 4) hx hb htt xin4 xT4 xTo4 xNm4 hown hK hP hD hS 0 rfl rfl 1 (by decide) (htt _ tw_148) (fun _ h9 => h9) rfl hin rfl (by decide +kernel) rfl rfl (Nat.le_of_ble_eq_true rfl) d_Records_init_17 (fun H locs hP hD hS => ?_)
  have hP : va_P (dC, dI) xcl [(h0, .inr (4, [.ref q14, .ref q15, .null, .int 0])), (q14, .inl (Z 0, 16, .inl (fun _ => 0))), (q15, .inl (Z 1, 16, .inr (.inl (fun _ => 0))))] H := hP
  have hD : va_D AA [(h0, .inr (4, [.ref q14, .ref q15, .null, .int 0])), (q14, .inl (Z 0, 16, .inl (fun _ => 0))), (q15, .inl (Z 1, 16, .inr (.inl (fun _ => 0))))] := hD
  refine lv_aload_n hx hb d_Records_init_20 rfl (lv_at hl 0 rfl) ?_
  refine lv_bipush (v := 16) hx hb d_Records_init_21 (by decide) ?_
  refine va_newa (atype := .int) (ty := .int) (a0 := (16, .inl (fun _ => 0))) (N' := 16) hx hb (htt _ tw_54) rfl hK hP hD hS hA (fun _ => rfl) (by decide) (by decide) (by decide) (Nat.le_of_ble_eq_true rfl) (Nat.le_of_ble_eq_true rfl) d_Records_init_23 (fun q16 cA H hK1 hP hD hS => ?_)
  obtain rfl : cA = Z 0 := Option.some.inj ((hK1.2 3 _ rfl).2.symm.trans (hK1.2 0 _ rfl).2)
  clear hK1
  have hP : va_P (dC, dI) xcl [(h0, .inr (4, [.ref q14, .ref q15, .null, .int 0])), (q14, .inl (Z 0, 16, .inl (fun _ => 0))), (q15, .inl (Z 1, 16, .inr (.inl (fun _ => 0)))), (q16, .inl (Z 0, 16, .inl (fun _ => 0)))] H := hP
  have hD : va_D AA [(h0, .inr (4, [.ref q14, .ref q15, .null, .int 0])), (q14, .inl (Z 0, 16, .inl (fun _ => 0))), (q15, .inl (Z 1, 16, .inr (.inl (fun _ => 0)))), (q16, .inl (Z 0, 16, .inl (fun _ => 0)))] := hD
  refine va_putF (D := (dC, dI)) (ci := 4) (v := .ref q16) (ty := (.array .int)) (C := "CentrifugeUnit$Records") (T := xF4) (N := 4) hx hb htt xin4 xT4 xTo4 xNm4 hown hK hP hD hS 0 rfl rfl 2 (by decide) (htt _ tw_149) (fun _ h9 => h9) rfl hin rfl (by decide +kernel) rfl rfl (Nat.le_of_ble_eq_true rfl) d_Records_init_25 (fun H locs hP hD hS => ?_)
  have hP : va_P (dC, dI) xcl [(h0, .inr (4, [.ref q14, .ref q15, .ref q16, .int 0])), (q14, .inl (Z 0, 16, .inl (fun _ => 0))), (q15, .inl (Z 1, 16, .inr (.inl (fun _ => 0)))), (q16, .inl (Z 0, 16, .inl (fun _ => 0)))] H := hP
  have hD : va_D AA [(h0, .inr (4, [.ref q14, .ref q15, .ref q16, .int 0])), (q14, .inl (Z 0, 16, .inl (fun _ => 0))), (q15, .inl (Z 1, 16, .inr (.inl (fun _ => 0)))), (q16, .inl (Z 0, 16, .inl (fun _ => 0)))] := hD
  have hP9 := hP.sub (ws' := [(h0, .inr (4, [.ref q14, .ref q15, .ref q16, .int 0])), (q14, .inl (Z 0, 16, .inl (fun _ => 0))), (q15, .inl (Z 1, 16, .inr (.inl (fun _ => 0)))), (q16, .inl (Z 0, 16, .inl (fun _ => 0)))]) [0, 1, 2, 3] rfl
  have hD9 := hD.sub (ws' := [(h0, .inr (4, [.ref q14, .ref q15, .ref q16, .int 0])), (q14, .inl (Z 0, 16, .inl (fun _ => 0))), (q15, .inl (Z 1, 16, .inr (.inl (fun _ => 0)))), (q16, .inl (Z 0, 16, .inl (fun _ => 0)))]) [0, 1, 2, 3] (by decide) rfl
  exact W.vret hx hb hr (fun t ht hW => ⟨⟨(q14, q15, q16), rfl, trivial, xE_at hP9 hK hD9 ht hW⟩, hS.F ht⟩) hS.2.2 d_Records_init_28
abbrev bc_Rotors_init : ByteArray := prog_7_method_1_code
def y_Rotors_init : MethodName := ⟨"CentrifugeUnit$Rotors", "<init>", "()V"⟩
theorem d_Rotors_init_0 : decode bc_Rotors_init 0 = .ok (.aload_n 0, 1) := by decide +kernel
theorem d_Rotors_init_1 : decode bc_Rotors_init 1 = .ok (.invokespecial 3, 3) := by decide +kernel
theorem d_Rotors_init_4 : decode bc_Rotors_init 4 = .ok (.aload_n 0, 1) := by decide +kernel
theorem d_Rotors_init_5 : decode bc_Rotors_init 5 = .ok (.iconst 4, 1) := by decide +kernel
theorem d_Rotors_init_6 : decode bc_Rotors_init 6 = .ok (.newarray .int, 2) := by decide +kernel
theorem d_Rotors_init_8 : decode bc_Rotors_init 8 = .ok (.putfield 11, 3) := by decide +kernel
theorem d_Rotors_init_11 : decode bc_Rotors_init 11 = .ok (.aload_n 0, 1) := by decide +kernel
theorem d_Rotors_init_12 : decode bc_Rotors_init 12 = .ok (.iconst 4, 1) := by decide +kernel
theorem d_Rotors_init_13 : decode bc_Rotors_init 13 = .ok (.newarray .int, 2) := by decide +kernel
theorem d_Rotors_init_15 : decode bc_Rotors_init 15 = .ok (.putfield 15, 3) := by decide +kernel
theorem d_Rotors_init_18 : decode bc_Rotors_init 18 = .ok (.aload_n 0, 1) := by decide +kernel
theorem d_Rotors_init_19 : decode bc_Rotors_init 19 = .ok (.iconst 4, 1) := by decide +kernel
theorem d_Rotors_init_20 : decode bc_Rotors_init 20 = .ok (.newarray .int, 2) := by decide +kernel
theorem d_Rotors_init_22 : decode bc_Rotors_init 22 = .ok (.putfield 18, 3) := by decide +kernel
theorem d_Rotors_init_25 : decode bc_Rotors_init 25 = .ok (.aload_n 0, 1) := by decide +kernel
theorem d_Rotors_init_26 : decode bc_Rotors_init 26 = .ok (.iconst 4, 1) := by decide +kernel
theorem d_Rotors_init_27 : decode bc_Rotors_init 27 = .ok (.newarray .int, 2) := by decide +kernel
theorem d_Rotors_init_29 : decode bc_Rotors_init 29 = .ok (.putfield 21, 3) := by decide +kernel
theorem d_Rotors_init_32 : decode bc_Rotors_init 32 = .ok (.aload_n 0, 1) := by decide +kernel
theorem d_Rotors_init_33 : decode bc_Rotors_init 33 = .ok (.iconst (-1), 1) := by decide +kernel
theorem d_Rotors_init_34 : decode bc_Rotors_init 34 = .ok (.putfield 24, 3) := by decide +kernel
theorem d_Rotors_init_37 : decode bc_Rotors_init 37 = .ok (.aload_n 0, 1) := by decide +kernel
theorem d_Rotors_init_38 : decode bc_Rotors_init 38 = .ok (.getfield 11, 3) := by decide +kernel
theorem d_Rotors_init_41 : decode bc_Rotors_init 41 = .ok (.iconst (-1), 1) := by decide +kernel
theorem d_Rotors_init_42 : decode bc_Rotors_init 42 = .ok (.invokestatic 28, 3) := by decide +kernel
theorem d_Rotors_init_45 : decode bc_Rotors_init 45 = .ok (.aload_n 0, 1) := by decide +kernel
theorem d_Rotors_init_46 : decode bc_Rotors_init 46 = .ok (.getfield 21, 3) := by decide +kernel
theorem d_Rotors_init_49 : decode bc_Rotors_init 49 = .ok (.bipush 100, 2) := by decide +kernel
theorem d_Rotors_init_51 : decode bc_Rotors_init 51 = .ok (.invokestatic 28, 3) := by decide +kernel
theorem d_Rotors_init_54 : decode bc_Rotors_init 54 = .ok (.return_, 1) := by decide +kernel
set_option maxHeartbeats 4000000 in
set_option maxRecDepth 100000 in
theorem c_Rotors_init (l : Launch) (dC : Nat → ClassId) (dI : Nat → Nat → Nat) (Z : Nat → ClassId) (h0 : Nat) (sz : Nat) : Met l y_Rotors_init (.code y_Rotors_init bc_Rotors_init 1 none :: xw) ({ frames := 1, cells := 4, slots := 16, locals := 23 }) (va_Pc [.ref h0] (xB (dC, dI) xcl (xty Z) sz [(h0, .inr (5, [.null, .null, .null, .null, .int 0]))])) (va_Qv (fun _ : Nat × Nat × Nat × Nat => True) (fun u => xE (dC, dI) xcl (xty Z) (va_A [(h0, .inr (5, [.null, .null, .null, .null, .int 0]))] sz) [(h0, .inr (5, [.ref (u.1), .ref (u.2.1), .ref (u.2.2.1), .ref (u.2.2.2), .int (-1)])), ((u.1), .inl (Z 0, 4, .inl (F_Arrays_fill xM0 (-1)))), ((u.2.1), .inl (Z 0, 4, .inl (fun _ => 0))), ((u.2.2.1), .inl (Z 0, 4, .inl (fun _ => 0))), ((u.2.2.2), .inl (Z 0, 4, .inl (F_Arrays_fill xM0 100)))]) (va_A [(h0, .inr (5, [.null, .null, .null, .null, .int 0]))] sz)) 4 16 (va_A [(h0, .inr (5, [.null, .null, .null, .null, .int 0]))] sz) := by
  refine Met.ofW (cc := bc_Rotors_init) (maxL := 1) (ret := none) (by decide) rfl ?_
  intro p e s m args below meth c s₁ B hml hv
  obtain ⟨rfl, hsz, hP, hK, hD0, hq⟩ := hv
  have hx := B.exec
  have hb := B.bytes
  have hr := B.returns
  have hts := atoms_spec (ws := (.code y_Rotors_init bc_Rotors_init 1 none :: xw)) B.pre
  have htt : ∀ w ∈ xw, w.before _ s = true := fun w h => hts w (List.mem_cons_of_mem _ h)
  have hown : s.vm.findClass "CentrifugeUnit$Rotors" = some m.cls := findClass_of_methodNamed B.named
  have hlocks := B.notSynchronized
  have hin : meth.name = "<init>" := (name_of_methodNamed B.named B.method).1
  subst hsz
  have hD := hD0.self (sz := s.heap.size)
  generalize hAe : va_A [(h0, .inr (5, [.null, .null, .null, .null, .int 0]))] s.heap.size = AA at hD ⊢
  have hA : ∀ q : Nat, s.heap.size ≤ q → AA q := fun q h => by rw [← hAe]; exact Or.inr h
  have hS : va_S AA s.heap s.heap [] := va_S.rf
  have hl := lv_entry ([.ref h0]) (n := 1) (Nat.le_of_ble_eq_true rfl)
  rw [lg_entry_eq]
  generalize (lg_sl ([.ref h0]) ++ List.replicate (1 - (lg_sl ([.ref h0])).length) Slot.unset).toArray = ls at hl ⊢
  have hl : lv_has ls 1 [(0, .ref h0)] := hl
  refine lv_aload_n hx hb d_Rotors_init_0 rfl (lv_at hl 0 rfl) ?_
  refine W.objInit hx hb hown (htt _ tw_33) (htt _ tw_26) (htt _ tw_27) rfl (by rw [hml]; exact hl.1) rfl d_Rotors_init_1 (Nat.le_of_ble_eq_true rfl) (Nat.le_of_ble_eq_true rfl) ?_
  refine W.eq (g2 := F0 m 4 ls []) rfl ?_
  refine lv_aload_n hx hb d_Rotors_init_4 rfl (lv_at hl 0 rfl) ?_
  refine lv_iconst (v := 4) hx hb d_Rotors_init_5 (by decide) ?_
  refine va_newa (atype := .int) (ty := .int) (a0 := (4, .inl (fun _ => 0))) (N' := 4) hx hb (htt _ tw_54) rfl hK hP hD hS hA (fun _ => rfl) (by decide) (by decide) (by decide) (Nat.le_of_ble_eq_true rfl) (Nat.le_of_ble_eq_true rfl) d_Rotors_init_6 (fun q2 cA H hK1 hP hD hS => ?_)
  obtain rfl : cA = Z 0 := Option.some.inj ((hK1.2 3 _ rfl).2.symm.trans (hK1.2 0 _ rfl).2)
  clear hK1
  have hP : va_P (dC, dI) xcl [(h0, .inr (5, [.null, .null, .null, .null, .int 0])), (q2, .inl (Z 0, 4, .inl (fun _ => 0)))] H := hP
  have hD : va_D AA [(h0, .inr (5, [.null, .null, .null, .null, .int 0])), (q2, .inl (Z 0, 4, .inl (fun _ => 0)))] := hD
  refine va_putF (D := (dC, dI)) (ci := 5) (v := .ref q2) (ty := (.array .int)) (C := "CentrifugeUnit$Rotors") (T := xF5) (N := 5) hx hb htt xin5 xT5 xTo5 xNm5 hown hK hP hD hS 0 rfl rfl 0 (by decide) (htt _ tw_37) (fun _ h9 => h9) rfl hin rfl (by decide +kernel) rfl rfl (Nat.le_of_ble_eq_true rfl) d_Rotors_init_8 (fun H locs hP hD hS => ?_)
  have hP : va_P (dC, dI) xcl [(h0, .inr (5, [.ref q2, .null, .null, .null, .int 0])), (q2, .inl (Z 0, 4, .inl (fun _ => 0)))] H := hP
  have hD : va_D AA [(h0, .inr (5, [.ref q2, .null, .null, .null, .int 0])), (q2, .inl (Z 0, 4, .inl (fun _ => 0)))] := hD
  refine lv_aload_n hx hb d_Rotors_init_11 rfl (lv_at hl 0 rfl) ?_
  refine lv_iconst (v := 4) hx hb d_Rotors_init_12 (by decide) ?_
  refine va_newa (atype := .int) (ty := .int) (a0 := (4, .inl (fun _ => 0))) (N' := 4) hx hb (htt _ tw_54) rfl hK hP hD hS hA (fun _ => rfl) (by decide) (by decide) (by decide) (Nat.le_of_ble_eq_true rfl) (Nat.le_of_ble_eq_true rfl) d_Rotors_init_13 (fun q3 cA H hK1 hP hD hS => ?_)
  obtain rfl : cA = Z 0 := Option.some.inj ((hK1.2 3 _ rfl).2.symm.trans (hK1.2 0 _ rfl).2)
  clear hK1
  have hP : va_P (dC, dI) xcl [(h0, .inr (5, [.ref q2, .null, .null, .null, .int 0])), (q2, .inl (Z 0, 4, .inl (fun _ => 0))), (q3, .inl (Z 0, 4, .inl (fun _ => 0)))] H := hP
  have hD : va_D AA [(h0, .inr (5, [.ref q2, .null, .null, .null, .int 0])), (q2, .inl (Z 0, 4, .inl (fun _ => 0))), (q3, .inl (Z 0, 4, .inl (fun _ => 0)))] := hD
  refine va_putF (D := (dC, dI)) (ci := 5) (v := .ref q3) (ty := (.array .int)) (C := "CentrifugeUnit$Rotors") (T := xF5) (N := 5) hx hb htt xin5 xT5 xTo5 xNm5 hown hK hP hD hS 0 rfl rfl 1 (by decide) (htt _ tw_38) (fun _ h9 => h9) rfl hin rfl (by decide +kernel) rfl rfl (Nat.le_of_ble_eq_true rfl) d_Rotors_init_15 (fun H locs hP hD hS => ?_)
  have hP : va_P (dC, dI) xcl [(h0, .inr (5, [.ref q2, .ref q3, .null, .null, .int 0])), (q2, .inl (Z 0, 4, .inl (fun _ => 0))), (q3, .inl (Z 0, 4, .inl (fun _ => 0)))] H := hP
  have hD : va_D AA [(h0, .inr (5, [.ref q2, .ref q3, .null, .null, .int 0])), (q2, .inl (Z 0, 4, .inl (fun _ => 0))), (q3, .inl (Z 0, 4, .inl (fun _ => 0)))] := hD
  refine lv_aload_n hx hb d_Rotors_init_18 rfl (lv_at hl 0 rfl) ?_
  refine lv_iconst (v := 4) hx hb d_Rotors_init_19 (by decide) ?_
  refine va_newa (atype := .int) (ty := .int) (a0 := (4, .inl (fun _ => 0))) (N' := 4) hx hb (htt _ tw_54) rfl hK hP hD hS hA (fun _ => rfl) (by decide) (by decide) (by decide) (Nat.le_of_ble_eq_true rfl) (Nat.le_of_ble_eq_true rfl) d_Rotors_init_20 (fun q4 cA H hK1 hP hD hS => ?_)
  obtain rfl : cA = Z 0 := Option.some.inj ((hK1.2 3 _ rfl).2.symm.trans (hK1.2 0 _ rfl).2)
  clear hK1
  have hP : va_P (dC, dI) xcl [(h0, .inr (5, [.ref q2, .ref q3, .null, .null, .int 0])), (q2, .inl (Z 0, 4, .inl (fun _ => 0))), (q3, .inl (Z 0, 4, .inl (fun _ => 0))), (q4, .inl (Z 0, 4, .inl (fun _ => 0)))] H := hP
  have hD : va_D AA [(h0, .inr (5, [.ref q2, .ref q3, .null, .null, .int 0])), (q2, .inl (Z 0, 4, .inl (fun _ => 0))), (q3, .inl (Z 0, 4, .inl (fun _ => 0))), (q4, .inl (Z 0, 4, .inl (fun _ => 0)))] := hD
  refine va_putF (D := (dC, dI)) (ci := 5) (v := .ref q4) (ty := (.array .int)) (C := "CentrifugeUnit$Rotors") (T := xF5) (N := 5) hx hb htt xin5 xT5 xTo5 xNm5 hown hK hP hD hS 0 rfl rfl 2 (by decide) (htt _ tw_39) (fun _ h9 => h9) rfl hin rfl (by decide +kernel) rfl rfl (Nat.le_of_ble_eq_true rfl) d_Rotors_init_22 (fun H locs hP hD hS => ?_)
  have hP : va_P (dC, dI) xcl [(h0, .inr (5, [.ref q2, .ref q3, .ref q4, .null, .int 0])), (q2, .inl (Z 0, 4, .inl (fun _ => 0))), (q3, .inl (Z 0, 4, .inl (fun _ => 0))), (q4, .inl (Z 0, 4, .inl (fun _ => 0)))] H := hP
  have hD : va_D AA [(h0, .inr (5, [.ref q2, .ref q3, .ref q4, .null, .int 0])), (q2, .inl (Z 0, 4, .inl (fun _ => 0))), (q3, .inl (Z 0, 4, .inl (fun _ => 0))), (q4, .inl (Z 0, 4, .inl (fun _ => 0)))] := hD
  refine lv_aload_n hx hb d_Rotors_init_25 rfl (lv_at hl 0 rfl) ?_
  refine lv_iconst (v := 4) hx hb d_Rotors_init_26 (by decide) ?_
  refine va_newa (atype := .int) (ty := .int) (a0 := (4, .inl (fun _ => 0))) (N' := 4) hx hb (htt _ tw_54) rfl hK hP hD hS hA (fun _ => rfl) (by decide) (by decide) (by decide) (Nat.le_of_ble_eq_true rfl) (Nat.le_of_ble_eq_true rfl) d_Rotors_init_27 (fun q5 cA H hK1 hP hD hS => ?_)
  obtain rfl : cA = Z 0 := Option.some.inj ((hK1.2 3 _ rfl).2.symm.trans (hK1.2 0 _ rfl).2)
  clear hK1
  have hP : va_P (dC, dI) xcl [(h0, .inr (5, [.ref q2, .ref q3, .ref q4, .null, .int 0])), (q2, .inl (Z 0, 4, .inl (fun _ => 0))), (q3, .inl (Z 0, 4, .inl (fun _ => 0))), (q4, .inl (Z 0, 4, .inl (fun _ => 0))), (q5, .inl (Z 0, 4, .inl (fun _ => 0)))] H := hP
  have hD : va_D AA [(h0, .inr (5, [.ref q2, .ref q3, .ref q4, .null, .int 0])), (q2, .inl (Z 0, 4, .inl (fun _ => 0))), (q3, .inl (Z 0, 4, .inl (fun _ => 0))), (q4, .inl (Z 0, 4, .inl (fun _ => 0))), (q5, .inl (Z 0, 4, .inl (fun _ => 0)))] := hD
  refine va_putF (D := (dC, dI)) (ci := 5) (v := .ref q5) (ty := (.array .int)) (C := "CentrifugeUnit$Rotors") (T := xF5) (N := 5) hx hb htt xin5 xT5 xTo5 xNm5 hown hK hP hD hS 0 rfl rfl 3 (by decide) (htt _ tw_40) (fun _ h9 => h9) rfl hin rfl (by decide +kernel) rfl rfl (Nat.le_of_ble_eq_true rfl) d_Rotors_init_29 (fun H locs hP hD hS => ?_)
  have hP : va_P (dC, dI) xcl [(h0, .inr (5, [.ref q2, .ref q3, .ref q4, .ref q5, .int 0])), (q2, .inl (Z 0, 4, .inl (fun _ => 0))), (q3, .inl (Z 0, 4, .inl (fun _ => 0))), (q4, .inl (Z 0, 4, .inl (fun _ => 0))), (q5, .inl (Z 0, 4, .inl (fun _ => 0)))] H := hP
  have hD : va_D AA [(h0, .inr (5, [.ref q2, .ref q3, .ref q4, .ref q5, .int 0])), (q2, .inl (Z 0, 4, .inl (fun _ => 0))), (q3, .inl (Z 0, 4, .inl (fun _ => 0))), (q4, .inl (Z 0, 4, .inl (fun _ => 0))), (q5, .inl (Z 0, 4, .inl (fun _ => 0)))] := hD
  refine lv_aload_n hx hb d_Rotors_init_32 rfl (lv_at hl 0 rfl) ?_
  refine lv_iconst (v := (-1)) hx hb d_Rotors_init_33 (by decide) ?_
  refine va_put (D := (dC, dI)) (ci := 5) (v := .int (-1)) (ty := .int) (C := "CentrifugeUnit$Rotors") (T := xF5) (N := 5) hx hb htt xin5 xT5 xTo5 xNm5 hown hK hP hD hS 0 rfl rfl 4 (by decide) (htt _ tw_41) (fun _ h9 => h9) rfl (by decide +kernel) rfl rfl (Nat.le_of_ble_eq_true rfl) d_Rotors_init_34 (fun H locs hP hD hS => ?_)
  have hP : va_P (dC, dI) xcl [(h0, .inr (5, [.ref q2, .ref q3, .ref q4, .ref q5, .int (-1)])), (q2, .inl (Z 0, 4, .inl (fun _ => 0))), (q3, .inl (Z 0, 4, .inl (fun _ => 0))), (q4, .inl (Z 0, 4, .inl (fun _ => 0))), (q5, .inl (Z 0, 4, .inl (fun _ => 0)))] H := hP
  have hD : va_D AA [(h0, .inr (5, [.ref q2, .ref q3, .ref q4, .ref q5, .int (-1)])), (q2, .inl (Z 0, 4, .inl (fun _ => 0))), (q3, .inl (Z 0, 4, .inl (fun _ => 0))), (q4, .inl (Z 0, 4, .inl (fun _ => 0))), (q5, .inl (Z 0, 4, .inl (fun _ => 0)))] := hD
  refine lv_aload_n hx hb d_Rotors_init_37 rfl (lv_at hl 0 rfl) ?_
  refine va_get (D := (dC, dI)) (ci := 5) (v := .ref q2) (C := "CentrifugeUnit$Rotors") (T := xF5) (N := 5) hx hb htt xin5 hown hK hP 0 rfl rfl 0 (by decide) (htt _ tw_37) (fun _ h9 => h9) rfl d_Rotors_init_38 ?_
  refine lv_iconst (v := (-1)) hx hb d_Rotors_init_41 (by decide) ?_
  have hPc := hP.sub (ws' := [(q2, .inl (Z 0, 4, .inl (fun _ => 0)))]) [1] rfl
  have hDc := hD.sub (ws' := [(q2, .inl (Z 0, 4, .inl (fun _ => 0)))]) [1] (by decide) rfl
  refine xk_v (wc := [(q2, .inl (Z 0, 4, .inl (fun _ => 0)))]) (wr := [(h0, .inr (5, [.ref q2, .ref q3, .ref q4, .ref q5, .int (-1)])), (q3, .inl (Z 0, 4, .inl (fun _ => 0))), (q4, .inl (Z 0, 4, .inl (fun _ => 0))), (q5, .inl (Z 0, 4, .inl (fun _ => 0)))]) (va_runS (As := [.ref q2, .int (-1)]) (rest := []) ⟨hx, hb, hml, hown, hts⟩ (c_Arrays_fill l dC dI Z (fun _ => q2) _ xM0 (-1)) (va_cwS 2 hts (xw_S _ tw_34 tw_35 tw_3 tw_36) rfl rfl rfl (by decide +kernel) ⟨Nat.le_of_ble_eq_true rfl, Nat.le_of_ble_eq_true rfl⟩) ⟨xB_blind, fun U hU hW => ⟨rfl, xB_at hPc hK hDc hq U hU hW⟩⟩ rfl rfl hl.1 rfl (lv_room (Nat.le_of_ble_eq_true rfl)) d_Rotors_init_42 ⟨Nat.le_of_ble_eq_true rfl, Nat.le_of_ble_eq_true rfl⟩) hP hD hS hA [1] [0, 2, 3, 4] rfl rfl (by decide) (by decide) (fun u42 H locs hu42 hP hD hS => ?_)
  subst hu42
  have hP : va_P (dC, dI) xcl [(h0, .inr (5, [.ref q2, .ref q3, .ref q4, .ref q5, .int (-1)])), (q3, .inl (Z 0, 4, .inl (fun _ => 0))), (q4, .inl (Z 0, 4, .inl (fun _ => 0))), (q5, .inl (Z 0, 4, .inl (fun _ => 0))), (q2, .inl (Z 0, 4, .inl (F_Arrays_fill xM0 (-1))))] H := hP
  have hD : va_D AA [(h0, .inr (5, [.ref q2, .ref q3, .ref q4, .ref q5, .int (-1)])), (q3, .inl (Z 0, 4, .inl (fun _ => 0))), (q4, .inl (Z 0, 4, .inl (fun _ => 0))), (q5, .inl (Z 0, 4, .inl (fun _ => 0))), (q2, .inl (Z 0, 4, .inl (F_Arrays_fill xM0 (-1))))] := hD
  refine lv_aload_n hx hb d_Rotors_init_45 rfl (lv_at hl 0 rfl) ?_
  refine va_get (D := (dC, dI)) (ci := 5) (v := .ref q5) (C := "CentrifugeUnit$Rotors") (T := xF5) (N := 5) hx hb htt xin5 hown hK hP 0 rfl rfl 3 (by decide) (htt _ tw_40) (fun _ h9 => h9) rfl d_Rotors_init_46 ?_
  refine lv_bipush (v := 100) hx hb d_Rotors_init_49 (by decide) ?_
  have hPc := hP.sub (ws' := [(q5, .inl (Z 0, 4, .inl (fun _ => 0)))]) [3] rfl
  have hDc := hD.sub (ws' := [(q5, .inl (Z 0, 4, .inl (fun _ => 0)))]) [3] (by decide) rfl
  refine xk_v (wc := [(q5, .inl (Z 0, 4, .inl (fun _ => 0)))]) (wr := [(h0, .inr (5, [.ref q2, .ref q3, .ref q4, .ref q5, .int (-1)])), (q3, .inl (Z 0, 4, .inl (fun _ => 0))), (q4, .inl (Z 0, 4, .inl (fun _ => 0))), (q2, .inl (Z 0, 4, .inl (F_Arrays_fill xM0 (-1))))]) (va_runS (As := [.ref q5, .int 100]) (rest := []) ⟨hx, hb, hml, hown, hts⟩ (c_Arrays_fill l dC dI Z (fun _ => q5) _ xM0 100) (va_cwS 2 hts (xw_S _ tw_34 tw_35 tw_3 tw_36) rfl rfl rfl (by decide +kernel) ⟨Nat.le_of_ble_eq_true rfl, Nat.le_of_ble_eq_true rfl⟩) ⟨xB_blind, fun U hU hW => ⟨rfl, xB_at hPc hK hDc hq U hU hW⟩⟩ rfl rfl hl.1 rfl (lv_room (Nat.le_of_ble_eq_true rfl)) d_Rotors_init_51 ⟨Nat.le_of_ble_eq_true rfl, Nat.le_of_ble_eq_true rfl⟩) hP hD hS hA [3] [0, 1, 2, 4] rfl rfl (by decide) (by decide) (fun u51 H locs hu51 hP hD hS => ?_)
  subst hu51
  have hP : va_P (dC, dI) xcl [(h0, .inr (5, [.ref q2, .ref q3, .ref q4, .ref q5, .int (-1)])), (q3, .inl (Z 0, 4, .inl (fun _ => 0))), (q4, .inl (Z 0, 4, .inl (fun _ => 0))), (q2, .inl (Z 0, 4, .inl (F_Arrays_fill xM0 (-1)))), (q5, .inl (Z 0, 4, .inl (F_Arrays_fill xM0 100)))] H := hP
  have hD : va_D AA [(h0, .inr (5, [.ref q2, .ref q3, .ref q4, .ref q5, .int (-1)])), (q3, .inl (Z 0, 4, .inl (fun _ => 0))), (q4, .inl (Z 0, 4, .inl (fun _ => 0))), (q2, .inl (Z 0, 4, .inl (F_Arrays_fill xM0 (-1)))), (q5, .inl (Z 0, 4, .inl (F_Arrays_fill xM0 100)))] := hD
  have hP9 := hP.sub (ws' := [(h0, .inr (5, [.ref q2, .ref q3, .ref q4, .ref q5, .int (-1)])), (q2, .inl (Z 0, 4, .inl (F_Arrays_fill xM0 (-1)))), (q3, .inl (Z 0, 4, .inl (fun _ => 0))), (q4, .inl (Z 0, 4, .inl (fun _ => 0))), (q5, .inl (Z 0, 4, .inl (F_Arrays_fill xM0 100)))]) [0, 3, 1, 2, 4] rfl
  have hD9 := hD.sub (ws' := [(h0, .inr (5, [.ref q2, .ref q3, .ref q4, .ref q5, .int (-1)])), (q2, .inl (Z 0, 4, .inl (F_Arrays_fill xM0 (-1)))), (q3, .inl (Z 0, 4, .inl (fun _ => 0))), (q4, .inl (Z 0, 4, .inl (fun _ => 0))), (q5, .inl (Z 0, 4, .inl (F_Arrays_fill xM0 100)))]) [0, 3, 1, 2, 4] (by decide) rfl
  exact W.vret hx hb hr (fun t ht hW => ⟨⟨(q2, q3, q4, q5), rfl, trivial, xE_at hP9 hK hD9 ht hW⟩, hS.F ht⟩) hS.2.2 d_Rotors_init_54
abbrev bc_Control_init : ByteArray := prog_2_method_1_code
def y_Control_init : MethodName := ⟨"CentrifugeUnit$Control", "<init>", "(LCentrifugeUnit$Rotors;LCentrifugeUnit$Program;LCentrifugeUnit$Sensors;LCentrifugeUnit$Lid;LCentrifugeUnit$Records;)V"⟩
theorem d_Control_init_0 : decode bc_Control_init 0 = .ok (.aload_n 0, 1) := by decide +kernel
theorem d_Control_init_1 : decode bc_Control_init 1 = .ok (.invokespecial 3, 3) := by decide +kernel
theorem d_Control_init_4 : decode bc_Control_init 4 = .ok (.aload_n 0, 1) := by decide +kernel
theorem d_Control_init_5 : decode bc_Control_init 5 = .ok (.new 9, 3) := by decide +kernel
theorem d_Control_init_8 : decode bc_Control_init 8 = .ok (.dup, 1) := by decide +kernel
theorem d_Control_init_9 : decode bc_Control_init 9 = .ok (.invokespecial 11, 3) := by decide +kernel
theorem d_Control_init_12 : decode bc_Control_init 12 = .ok (.putfield 12, 3) := by decide +kernel
theorem d_Control_init_15 : decode bc_Control_init 15 = .ok (.aload_n 0, 1) := by decide +kernel
theorem d_Control_init_16 : decode bc_Control_init 16 = .ok (.new 18, 3) := by decide +kernel
theorem d_Control_init_19 : decode bc_Control_init 19 = .ok (.dup, 1) := by decide +kernel
theorem d_Control_init_20 : decode bc_Control_init 20 = .ok (.invokespecial 20, 3) := by decide +kernel
theorem d_Control_init_23 : decode bc_Control_init 23 = .ok (.putfield 21, 3) := by decide +kernel
theorem d_Control_init_26 : decode bc_Control_init 26 = .ok (.aload_n 0, 1) := by decide +kernel
theorem d_Control_init_27 : decode bc_Control_init 27 = .ok (.iconst 1, 1) := by decide +kernel
theorem d_Control_init_28 : decode bc_Control_init 28 = .ok (.putfield 25, 3) := by decide +kernel
theorem d_Control_init_31 : decode bc_Control_init 31 = .ok (.aload_n 0, 1) := by decide +kernel
theorem d_Control_init_32 : decode bc_Control_init 32 = .ok (.sipush 2000, 3) := by decide +kernel
theorem d_Control_init_35 : decode bc_Control_init 35 = .ok (.putfield 29, 3) := by decide +kernel
theorem d_Control_init_38 : decode bc_Control_init 38 = .ok (.aload_n 0, 1) := by decide +kernel
theorem d_Control_init_39 : decode bc_Control_init 39 = .ok (.iconst 0, 1) := by decide +kernel
theorem d_Control_init_40 : decode bc_Control_init 40 = .ok (.putfield 33, 3) := by decide +kernel
theorem d_Control_init_43 : decode bc_Control_init 43 = .ok (.aload_n 0, 1) := by decide +kernel
theorem d_Control_init_44 : decode bc_Control_init 44 = .ok (.iconst 0, 1) := by decide +kernel
theorem d_Control_init_45 : decode bc_Control_init 45 = .ok (.putfield 36, 3) := by decide +kernel
theorem d_Control_init_48 : decode bc_Control_init 48 = .ok (.aload_n 0, 1) := by decide +kernel
theorem d_Control_init_49 : decode bc_Control_init 49 = .ok (.aload_n 1, 1) := by decide +kernel
theorem d_Control_init_50 : decode bc_Control_init 50 = .ok (.putfield 39, 3) := by decide +kernel
theorem d_Control_init_53 : decode bc_Control_init 53 = .ok (.aload_n 0, 1) := by decide +kernel
theorem d_Control_init_54 : decode bc_Control_init 54 = .ok (.aload_n 2, 1) := by decide +kernel
theorem d_Control_init_55 : decode bc_Control_init 55 = .ok (.putfield 43, 3) := by decide +kernel
theorem d_Control_init_58 : decode bc_Control_init 58 = .ok (.aload_n 0, 1) := by decide +kernel
theorem d_Control_init_59 : decode bc_Control_init 59 = .ok (.aload_n 3, 1) := by decide +kernel
theorem d_Control_init_60 : decode bc_Control_init 60 = .ok (.putfield 47, 3) := by decide +kernel
theorem d_Control_init_63 : decode bc_Control_init 63 = .ok (.aload_n 0, 1) := by decide +kernel
theorem d_Control_init_64 : decode bc_Control_init 64 = .ok (.aload 4, 2) := by decide +kernel
theorem d_Control_init_66 : decode bc_Control_init 66 = .ok (.putfield 51, 3) := by decide +kernel
theorem d_Control_init_69 : decode bc_Control_init 69 = .ok (.aload_n 0, 1) := by decide +kernel
theorem d_Control_init_70 : decode bc_Control_init 70 = .ok (.aload 5, 2) := by decide +kernel
theorem d_Control_init_72 : decode bc_Control_init 72 = .ok (.putfield 55, 3) := by decide +kernel
theorem d_Control_init_75 : decode bc_Control_init 75 = .ok (.return_, 1) := by decide +kernel
set_option maxHeartbeats 4000000 in
set_option maxRecDepth 100000 in
theorem c_Control_init (l : Launch) (dC : Nat → ClassId) (dI : Nat → Nat → Nat) (Z : Nat → ClassId) (h0 : Nat) (sz : Nat) (r1 : Nat) (r6 : Nat) (r11 : Nat) (r12 : Nat) (r13 : Nat) : Met l y_Control_init (.code y_Control_init bc_Control_init 6 none :: xw) ({ frames := 2, cells := 2, slots := 12, locals := 40 }) (va_Pc [.ref h0, .ref r1, .ref r6, .ref r11, .ref r12, .ref r13] (xB (dC, dI) xcl (xty Z) sz [(h0, .inr (0, [.null, .null, .null, .null, .null, .null, .null, .int 0, .int 0, .int 0, .int 0, .int 0, .int 0, .int 0]))])) (va_Qv (fun _ : Nat × Nat => True) (fun u => xE (dC, dI) xcl (xty Z) (va_A [(h0, .inr (0, [.null, .null, .null, .null, .null, .null, .null, .int 0, .int 0, .int 0, .int 0, .int 0, .int 0, .int 0]))] sz) [(h0, .inr (0, [.ref r1, .ref r6, .ref r11, .ref r12, .ref r13, .ref (u.1), .ref (u.2), .int 1, .int 2000, .int 0, .int 0, .int 0, .int 0, .int 0])), ((u.1), .inr (8, [.int 0, .int 0, .int 0, .int 0])), ((u.2), .inr (6, [.long 0, .long 0, .int (F_Run_init xM0), .int 0, .int 0, .int 0, .int 0, .int 0]))]) (va_A [(h0, .inr (0, [.null, .null, .null, .null, .null, .null, .null, .int 0, .int 0, .int 0, .int 0, .int 0, .int 0, .int 0]))] sz)) 2 12 (va_A [(h0, .inr (0, [.null, .null, .null, .null, .null, .null, .null, .int 0, .int 0, .int 0, .int 0, .int 0, .int 0, .int 0]))] sz) := by
  refine Met.ofW (cc := bc_Control_init) (maxL := 6) (ret := none) (by decide) rfl ?_
  intro p e s m args below meth c s₁ B hml hv
  obtain ⟨rfl, hsz, hP, hK, hD0, hq⟩ := hv
  have hx := B.exec
  have hb := B.bytes
  have hr := B.returns
  have hts := atoms_spec (ws := (.code y_Control_init bc_Control_init 6 none :: xw)) B.pre
  have htt : ∀ w ∈ xw, w.before _ s = true := fun w h => hts w (List.mem_cons_of_mem _ h)
  have hown : s.vm.findClass "CentrifugeUnit$Control" = some m.cls := findClass_of_methodNamed B.named
  have hlocks := B.notSynchronized
  have hin : meth.name = "<init>" := (name_of_methodNamed B.named B.method).1
  subst hsz
  have hD := hD0.self (sz := s.heap.size)
  generalize hAe : va_A [(h0, .inr (0, [.null, .null, .null, .null, .null, .null, .null, .int 0, .int 0, .int 0, .int 0, .int 0, .int 0, .int 0]))] s.heap.size = AA at hD ⊢
  have hA : ∀ q : Nat, s.heap.size ≤ q → AA q := fun q h => by rw [← hAe]; exact Or.inr h
  have hS : va_S AA s.heap s.heap [] := va_S.rf
  have hl := lv_entry ([.ref h0, .ref r1, .ref r6, .ref r11, .ref r12, .ref r13]) (n := 6) (Nat.le_of_ble_eq_true rfl)
  rw [lg_entry_eq]
  generalize (lg_sl ([.ref h0, .ref r1, .ref r6, .ref r11, .ref r12, .ref r13]) ++ List.replicate (6 - (lg_sl ([.ref h0, .ref r1, .ref r6, .ref r11, .ref r12, .ref r13])).length) Slot.unset).toArray = ls at hl ⊢
  have hl : lv_has ls 6 [(0, .ref h0), (1, .ref r1), (2, .ref r6), (3, .ref r11), (4, .ref r12), (5, .ref r13)] := hl
  refine lv_aload_n hx hb d_Control_init_0 rfl (lv_at hl 0 rfl) ?_
  refine W.objInit hx hb hown (htt _ tw_167) (htt _ tw_26) (htt _ tw_27) rfl (by rw [hml]; exact hl.1) rfl d_Control_init_1 (Nat.le_of_ble_eq_true rfl) (Nat.le_of_ble_eq_true rfl) ?_
  refine W.eq (g2 := F0 m 4 ls []) rfl ?_
  refine lv_aload_n hx hb d_Control_init_4 rfl (lv_at hl 0 rfl) ?_
  refine va_new (ci := 8) (fs := [.int 0, .int 0, .int 0, .int 0]) (C := "CentrifugeUnit$Watch") (T := xF8) (N := 4) hx hb htt xin8 xT8 xTo8 hown (htt _ tw_168) (htt _ tw_169) (htt _ tw_10) hK hP hD hS hA rfl (fun j hj => by rcases (show j = 0 ∨ j = 1 ∨ j = 2 ∨ j = 3 by omega) with rfl | rfl | rfl | rfl <;> rfl) (Nat.le_of_ble_eq_true rfl) (Nat.le_of_ble_eq_true rfl) d_Control_init_5 (fun q18 H hP hD hS => ?_)
  have hP : va_P (dC, dI) xcl [(h0, .inr (0, [.null, .null, .null, .null, .null, .null, .null, .int 0, .int 0, .int 0, .int 0, .int 0, .int 0, .int 0])), (q18, .inr (8, [.int 0, .int 0, .int 0, .int 0]))] H := hP
  have hD : va_D AA [(h0, .inr (0, [.null, .null, .null, .null, .null, .null, .null, .int 0, .int 0, .int 0, .int 0, .int 0, .int 0, .int 0])), (q18, .inr (8, [.int 0, .int 0, .int 0, .int 0]))] := hD
  refine lv_dup hx hb d_Control_init_8 rfl ?_
  have hPc := hP.sub (ws' := [(q18, .inr (8, [.int 0, .int 0, .int 0, .int 0]))]) [1] rfl
  have hDc := hD.sub (ws' := [(q18, .inr (8, [.int 0, .int 0, .int 0, .int 0]))]) [1] (by decide) rfl
  refine xk_v (wc := [(q18, .inr (8, [.int 0, .int 0, .int 0, .int 0]))]) (wr := [(h0, .inr (0, [.null, .null, .null, .null, .null, .null, .null, .int 0, .int 0, .int 0, .int 0, .int 0, .int 0, .int 0]))]) (va_runIN (As := []) (rest := [.ref q18, .ref h0]) ⟨hx, hb, hml, hown, hts⟩ (c_Watch_init l dC dI Z q18 _) ⟨va_cnB 0 hts (xw_call _ tw_172) rfl rfl rfl (hq.1 ("CentrifugeUnit$Control", 11, y_Watch_init, "CentrifugeUnit") (by decide +kernel)) (htt _ tw_10) (by decide +kernel) ⟨Nat.le_of_ble_eq_true rfl, Nat.le_of_ble_eq_true rfl⟩, rfl, htt _ tw_171⟩ ⟨xB_blind, fun U hU hW => ⟨rfl, xB_at hPc hK hDc hq U hU hW⟩⟩ rfl rfl hl.1 rfl (lv_room (Nat.le_of_ble_eq_true rfl)) d_Control_init_9 ⟨Nat.le_of_ble_eq_true rfl, Nat.le_of_ble_eq_true rfl⟩) hP hD hS hA [1] [0] rfl rfl (by decide) (by decide) (fun u9 H locs hu9 hP hD hS => ?_)
  have hP : va_P (dC, dI) xcl [(h0, .inr (0, [.null, .null, .null, .null, .null, .null, .null, .int 0, .int 0, .int 0, .int 0, .int 0, .int 0, .int 0])), (q18, .inr (8, [.int 0, .int 0, .int 0, .int 0]))] H := hP
  have hD : va_D AA [(h0, .inr (0, [.null, .null, .null, .null, .null, .null, .null, .int 0, .int 0, .int 0, .int 0, .int 0, .int 0, .int 0])), (q18, .inr (8, [.int 0, .int 0, .int 0, .int 0]))] := hD
  refine va_putF (D := (dC, dI)) (ci := 0) (v := .ref q18) (ty := (.object "CentrifugeUnit$Watch")) (C := "CentrifugeUnit$Control") (T := xF0) (N := 14) hx hb htt xin0 xT0 xTo0 xNm0 hown hK hP hD hS 0 rfl rfl 5 (by decide) (htt _ tw_236) (fun _ h9 => h9) rfl hin rfl (by decide +kernel) rfl rfl (Nat.le_of_ble_eq_true rfl) d_Control_init_12 (fun H locs hP hD hS => ?_)
  have hP : va_P (dC, dI) xcl [(h0, .inr (0, [.null, .null, .null, .null, .null, .ref q18, .null, .int 0, .int 0, .int 0, .int 0, .int 0, .int 0, .int 0])), (q18, .inr (8, [.int 0, .int 0, .int 0, .int 0]))] H := hP
  have hD : va_D AA [(h0, .inr (0, [.null, .null, .null, .null, .null, .ref q18, .null, .int 0, .int 0, .int 0, .int 0, .int 0, .int 0, .int 0])), (q18, .inr (8, [.int 0, .int 0, .int 0, .int 0]))] := hD
  refine lv_aload_n hx hb d_Control_init_15 rfl (lv_at hl 0 rfl) ?_
  refine va_new (ci := 6) (fs := [.long 0, .long 0, .int 0, .int 0, .int 0, .int 0, .int 0, .int 0]) (C := "CentrifugeUnit$Run") (T := xF6) (N := 8) hx hb htt xin6 xT6 xTo6 hown (htt _ tw_188) (htt _ tw_189) (htt _ tw_11) hK hP hD hS hA rfl (fun j hj => by rcases (show j = 0 ∨ j = 1 ∨ j = 2 ∨ j = 3 ∨ j = 4 ∨ j = 5 ∨ j = 6 ∨ j = 7 by omega) with rfl | rfl | rfl | rfl | rfl | rfl | rfl | rfl <;> rfl) (Nat.le_of_ble_eq_true rfl) (Nat.le_of_ble_eq_true rfl) d_Control_init_16 (fun q19 H hP hD hS => ?_)
  have hP : va_P (dC, dI) xcl [(h0, .inr (0, [.null, .null, .null, .null, .null, .ref q18, .null, .int 0, .int 0, .int 0, .int 0, .int 0, .int 0, .int 0])), (q18, .inr (8, [.int 0, .int 0, .int 0, .int 0])), (q19, .inr (6, [.long 0, .long 0, .int 0, .int 0, .int 0, .int 0, .int 0, .int 0]))] H := hP
  have hD : va_D AA [(h0, .inr (0, [.null, .null, .null, .null, .null, .ref q18, .null, .int 0, .int 0, .int 0, .int 0, .int 0, .int 0, .int 0])), (q18, .inr (8, [.int 0, .int 0, .int 0, .int 0])), (q19, .inr (6, [.long 0, .long 0, .int 0, .int 0, .int 0, .int 0, .int 0, .int 0]))] := hD
  refine lv_dup hx hb d_Control_init_19 rfl ?_
  have hPc := hP.sub (ws' := [(q19, .inr (6, [.long 0, .long 0, .int 0, .int 0, .int 0, .int 0, .int 0, .int 0]))]) [2] rfl
  have hDc := hD.sub (ws' := [(q19, .inr (6, [.long 0, .long 0, .int 0, .int 0, .int 0, .int 0, .int 0, .int 0]))]) [2] (by decide) rfl
  refine xk_v (wc := [(q19, .inr (6, [.long 0, .long 0, .int 0, .int 0, .int 0, .int 0, .int 0, .int 0]))]) (wr := [(h0, .inr (0, [.null, .null, .null, .null, .null, .ref q18, .null, .int 0, .int 0, .int 0, .int 0, .int 0, .int 0, .int 0])), (q18, .inr (8, [.int 0, .int 0, .int 0, .int 0]))]) (va_runIN (As := []) (rest := [.ref q19, .ref h0]) ⟨hx, hb, hml, hown, hts⟩ (c_Run_init l dC dI Z (fun _ => q19) _ xM0) ⟨va_cnB 0 hts (xw_call _ tw_192) rfl rfl rfl (hq.1 ("CentrifugeUnit$Control", 20, y_Run_init, "CentrifugeUnit") (by decide +kernel)) (htt _ tw_11) (by decide +kernel) ⟨Nat.le_of_ble_eq_true rfl, Nat.le_of_ble_eq_true rfl⟩, rfl, htt _ tw_191⟩ ⟨xB_blind, fun U hU hW => ⟨rfl, xB_at hPc hK hDc hq U hU hW⟩⟩ rfl rfl hl.1 rfl (lv_room (Nat.le_of_ble_eq_true rfl)) d_Control_init_20 ⟨Nat.le_of_ble_eq_true rfl, Nat.le_of_ble_eq_true rfl⟩) hP hD hS hA [2] [0, 1] rfl rfl (by decide) (by decide) (fun u20 H locs hu20 hP hD hS => ?_)
  subst hu20
  have hP : va_P (dC, dI) xcl [(h0, .inr (0, [.null, .null, .null, .null, .null, .ref q18, .null, .int 0, .int 0, .int 0, .int 0, .int 0, .int 0, .int 0])), (q18, .inr (8, [.int 0, .int 0, .int 0, .int 0])), (q19, .inr (6, [.long 0, .long 0, .int (F_Run_init xM0), .int 0, .int 0, .int 0, .int 0, .int 0]))] H := hP
  have hD : va_D AA [(h0, .inr (0, [.null, .null, .null, .null, .null, .ref q18, .null, .int 0, .int 0, .int 0, .int 0, .int 0, .int 0, .int 0])), (q18, .inr (8, [.int 0, .int 0, .int 0, .int 0])), (q19, .inr (6, [.long 0, .long 0, .int (F_Run_init xM0), .int 0, .int 0, .int 0, .int 0, .int 0]))] := hD
  refine va_putF (D := (dC, dI)) (ci := 0) (v := .ref q19) (ty := (.object "CentrifugeUnit$Run")) (C := "CentrifugeUnit$Control") (T := xF0) (N := 14) hx hb htt xin0 xT0 xTo0 xNm0 hown hK hP hD hS 0 rfl rfl 6 (by decide) (htt _ tw_238) (fun _ h9 => h9) rfl hin rfl (by decide +kernel) rfl rfl (Nat.le_of_ble_eq_true rfl) d_Control_init_23 (fun H locs hP hD hS => ?_)
  have hP : va_P (dC, dI) xcl [(h0, .inr (0, [.null, .null, .null, .null, .null, .ref q18, .ref q19, .int 0, .int 0, .int 0, .int 0, .int 0, .int 0, .int 0])), (q18, .inr (8, [.int 0, .int 0, .int 0, .int 0])), (q19, .inr (6, [.long 0, .long 0, .int (F_Run_init xM0), .int 0, .int 0, .int 0, .int 0, .int 0]))] H := hP
  have hD : va_D AA [(h0, .inr (0, [.null, .null, .null, .null, .null, .ref q18, .ref q19, .int 0, .int 0, .int 0, .int 0, .int 0, .int 0, .int 0])), (q18, .inr (8, [.int 0, .int 0, .int 0, .int 0])), (q19, .inr (6, [.long 0, .long 0, .int (F_Run_init xM0), .int 0, .int 0, .int 0, .int 0, .int 0]))] := hD
  refine lv_aload_n hx hb d_Control_init_26 rfl (lv_at hl 0 rfl) ?_
  refine lv_iconst (v := 1) hx hb d_Control_init_27 (by decide) ?_
  refine va_put (D := (dC, dI)) (ci := 0) (v := .int 1) (ty := .boolean) (C := "CentrifugeUnit$Control") (T := xF0) (N := 14) hx hb htt xin0 xT0 xTo0 xNm0 hown hK hP hD hS 0 rfl rfl 7 (by decide) (htt _ tw_240) (fun _ h9 => h9) rfl (by decide +kernel) rfl rfl (Nat.le_of_ble_eq_true rfl) d_Control_init_28 (fun H locs hP hD hS => ?_)
  have hP : va_P (dC, dI) xcl [(h0, .inr (0, [.null, .null, .null, .null, .null, .ref q18, .ref q19, .int 1, .int 0, .int 0, .int 0, .int 0, .int 0, .int 0])), (q18, .inr (8, [.int 0, .int 0, .int 0, .int 0])), (q19, .inr (6, [.long 0, .long 0, .int (F_Run_init xM0), .int 0, .int 0, .int 0, .int 0, .int 0]))] H := hP
  have hD : va_D AA [(h0, .inr (0, [.null, .null, .null, .null, .null, .ref q18, .ref q19, .int 1, .int 0, .int 0, .int 0, .int 0, .int 0, .int 0])), (q18, .inr (8, [.int 0, .int 0, .int 0, .int 0])), (q19, .inr (6, [.long 0, .long 0, .int (F_Run_init xM0), .int 0, .int 0, .int 0, .int 0, .int 0]))] := hD
  refine lv_aload_n hx hb d_Control_init_31 rfl (lv_at hl 0 rfl) ?_
  refine lv_sipush (v := 2000) hx hb d_Control_init_32 (by decide) ?_
  refine va_put (D := (dC, dI)) (ci := 0) (v := .int 2000) (ty := .int) (C := "CentrifugeUnit$Control") (T := xF0) (N := 14) hx hb htt xin0 xT0 xTo0 xNm0 hown hK hP hD hS 0 rfl rfl 8 (by decide) (htt _ tw_242) (fun _ h9 => h9) rfl (by decide +kernel) rfl rfl (Nat.le_of_ble_eq_true rfl) d_Control_init_35 (fun H locs hP hD hS => ?_)
  have hP : va_P (dC, dI) xcl [(h0, .inr (0, [.null, .null, .null, .null, .null, .ref q18, .ref q19, .int 1, .int 2000, .int 0, .int 0, .int 0, .int 0, .int 0])), (q18, .inr (8, [.int 0, .int 0, .int 0, .int 0])), (q19, .inr (6, [.long 0, .long 0, .int (F_Run_init xM0), .int 0, .int 0, .int 0, .int 0, .int 0]))] H := hP
  have hD : va_D AA [(h0, .inr (0, [.null, .null, .null, .null, .null, .ref q18, .ref q19, .int 1, .int 2000, .int 0, .int 0, .int 0, .int 0, .int 0])), (q18, .inr (8, [.int 0, .int 0, .int 0, .int 0])), (q19, .inr (6, [.long 0, .long 0, .int (F_Run_init xM0), .int 0, .int 0, .int 0, .int 0, .int 0]))] := hD
  refine lv_aload_n hx hb d_Control_init_38 rfl (lv_at hl 0 rfl) ?_
  refine lv_iconst (v := 0) hx hb d_Control_init_39 (by decide) ?_
  refine va_put (D := (dC, dI)) (ci := 0) (v := .int 0) (ty := .int) (C := "CentrifugeUnit$Control") (T := xF0) (N := 14) hx hb htt xin0 xT0 xTo0 xNm0 hown hK hP hD hS 0 rfl rfl 9 (by decide) (htt _ tw_244) (fun _ h9 => h9) rfl (by decide +kernel) rfl rfl (Nat.le_of_ble_eq_true rfl) d_Control_init_40 (fun H locs hP hD hS => ?_)
  have hP : va_P (dC, dI) xcl [(h0, .inr (0, [.null, .null, .null, .null, .null, .ref q18, .ref q19, .int 1, .int 2000, .int 0, .int 0, .int 0, .int 0, .int 0])), (q18, .inr (8, [.int 0, .int 0, .int 0, .int 0])), (q19, .inr (6, [.long 0, .long 0, .int (F_Run_init xM0), .int 0, .int 0, .int 0, .int 0, .int 0]))] H := hP
  have hD : va_D AA [(h0, .inr (0, [.null, .null, .null, .null, .null, .ref q18, .ref q19, .int 1, .int 2000, .int 0, .int 0, .int 0, .int 0, .int 0])), (q18, .inr (8, [.int 0, .int 0, .int 0, .int 0])), (q19, .inr (6, [.long 0, .long 0, .int (F_Run_init xM0), .int 0, .int 0, .int 0, .int 0, .int 0]))] := hD
  refine lv_aload_n hx hb d_Control_init_43 rfl (lv_at hl 0 rfl) ?_
  refine lv_iconst (v := 0) hx hb d_Control_init_44 (by decide) ?_
  refine va_put (D := (dC, dI)) (ci := 0) (v := .int 0) (ty := .int) (C := "CentrifugeUnit$Control") (T := xF0) (N := 14) hx hb htt xin0 xT0 xTo0 xNm0 hown hK hP hD hS 0 rfl rfl 10 (by decide) (htt _ tw_246) (fun _ h9 => h9) rfl (by decide +kernel) rfl rfl (Nat.le_of_ble_eq_true rfl) d_Control_init_45 (fun H locs hP hD hS => ?_)
  have hP : va_P (dC, dI) xcl [(h0, .inr (0, [.null, .null, .null, .null, .null, .ref q18, .ref q19, .int 1, .int 2000, .int 0, .int 0, .int 0, .int 0, .int 0])), (q18, .inr (8, [.int 0, .int 0, .int 0, .int 0])), (q19, .inr (6, [.long 0, .long 0, .int (F_Run_init xM0), .int 0, .int 0, .int 0, .int 0, .int 0]))] H := hP
  have hD : va_D AA [(h0, .inr (0, [.null, .null, .null, .null, .null, .ref q18, .ref q19, .int 1, .int 2000, .int 0, .int 0, .int 0, .int 0, .int 0])), (q18, .inr (8, [.int 0, .int 0, .int 0, .int 0])), (q19, .inr (6, [.long 0, .long 0, .int (F_Run_init xM0), .int 0, .int 0, .int 0, .int 0, .int 0]))] := hD
  refine lv_aload_n hx hb d_Control_init_48 rfl (lv_at hl 0 rfl) ?_
  refine lv_aload_n hx hb d_Control_init_49 rfl (lv_at hl 1 rfl) ?_
  refine va_putF (D := (dC, dI)) (ci := 0) (v := .ref r1) (ty := (.object "CentrifugeUnit$Rotors")) (C := "CentrifugeUnit$Control") (T := xF0) (N := 14) hx hb htt xin0 xT0 xTo0 xNm0 hown hK hP hD hS 0 rfl rfl 0 (by decide) (htt _ tw_231) (fun _ h9 => h9) rfl hin rfl (by decide +kernel) rfl rfl (Nat.le_of_ble_eq_true rfl) d_Control_init_50 (fun H locs hP hD hS => ?_)
  have hP : va_P (dC, dI) xcl [(h0, .inr (0, [.ref r1, .null, .null, .null, .null, .ref q18, .ref q19, .int 1, .int 2000, .int 0, .int 0, .int 0, .int 0, .int 0])), (q18, .inr (8, [.int 0, .int 0, .int 0, .int 0])), (q19, .inr (6, [.long 0, .long 0, .int (F_Run_init xM0), .int 0, .int 0, .int 0, .int 0, .int 0]))] H := hP
  have hD : va_D AA [(h0, .inr (0, [.ref r1, .null, .null, .null, .null, .ref q18, .ref q19, .int 1, .int 2000, .int 0, .int 0, .int 0, .int 0, .int 0])), (q18, .inr (8, [.int 0, .int 0, .int 0, .int 0])), (q19, .inr (6, [.long 0, .long 0, .int (F_Run_init xM0), .int 0, .int 0, .int 0, .int 0, .int 0]))] := hD
  refine lv_aload_n hx hb d_Control_init_53 rfl (lv_at hl 0 rfl) ?_
  refine lv_aload_n hx hb d_Control_init_54 rfl (lv_at hl 2 rfl) ?_
  refine va_putF (D := (dC, dI)) (ci := 0) (v := .ref r6) (ty := (.object "CentrifugeUnit$Program")) (C := "CentrifugeUnit$Control") (T := xF0) (N := 14) hx hb htt xin0 xT0 xTo0 xNm0 hown hK hP hD hS 0 rfl rfl 1 (by decide) (htt _ tw_232) (fun _ h9 => h9) rfl hin rfl (by decide +kernel) rfl rfl (Nat.le_of_ble_eq_true rfl) d_Control_init_55 (fun H locs hP hD hS => ?_)
  have hP : va_P (dC, dI) xcl [(h0, .inr (0, [.ref r1, .ref r6, .null, .null, .null, .ref q18, .ref q19, .int 1, .int 2000, .int 0, .int 0, .int 0, .int 0, .int 0])), (q18, .inr (8, [.int 0, .int 0, .int 0, .int 0])), (q19, .inr (6, [.long 0, .long 0, .int (F_Run_init xM0), .int 0, .int 0, .int 0, .int 0, .int 0]))] H := hP
  have hD : va_D AA [(h0, .inr (0, [.ref r1, .ref r6, .null, .null, .null, .ref q18, .ref q19, .int 1, .int 2000, .int 0, .int 0, .int 0, .int 0, .int 0])), (q18, .inr (8, [.int 0, .int 0, .int 0, .int 0])), (q19, .inr (6, [.long 0, .long 0, .int (F_Run_init xM0), .int 0, .int 0, .int 0, .int 0, .int 0]))] := hD
  refine lv_aload_n hx hb d_Control_init_58 rfl (lv_at hl 0 rfl) ?_
  refine lv_aload_n hx hb d_Control_init_59 rfl (lv_at hl 3 rfl) ?_
  refine va_putF (D := (dC, dI)) (ci := 0) (v := .ref r11) (ty := (.object "CentrifugeUnit$Sensors")) (C := "CentrifugeUnit$Control") (T := xF0) (N := 14) hx hb htt xin0 xT0 xTo0 xNm0 hown hK hP hD hS 0 rfl rfl 2 (by decide) (htt _ tw_233) (fun _ h9 => h9) rfl hin rfl (by decide +kernel) rfl rfl (Nat.le_of_ble_eq_true rfl) d_Control_init_60 (fun H locs hP hD hS => ?_)
  have hP : va_P (dC, dI) xcl [(h0, .inr (0, [.ref r1, .ref r6, .ref r11, .null, .null, .ref q18, .ref q19, .int 1, .int 2000, .int 0, .int 0, .int 0, .int 0, .int 0])), (q18, .inr (8, [.int 0, .int 0, .int 0, .int 0])), (q19, .inr (6, [.long 0, .long 0, .int (F_Run_init xM0), .int 0, .int 0, .int 0, .int 0, .int 0]))] H := hP
  have hD : va_D AA [(h0, .inr (0, [.ref r1, .ref r6, .ref r11, .null, .null, .ref q18, .ref q19, .int 1, .int 2000, .int 0, .int 0, .int 0, .int 0, .int 0])), (q18, .inr (8, [.int 0, .int 0, .int 0, .int 0])), (q19, .inr (6, [.long 0, .long 0, .int (F_Run_init xM0), .int 0, .int 0, .int 0, .int 0, .int 0]))] := hD
  refine lv_aload_n hx hb d_Control_init_63 rfl (lv_at hl 0 rfl) ?_
  refine lv_aload hx hb d_Control_init_64 (lv_at hl 4 rfl) ?_
  refine va_putF (D := (dC, dI)) (ci := 0) (v := .ref r12) (ty := (.object "CentrifugeUnit$Lid")) (C := "CentrifugeUnit$Control") (T := xF0) (N := 14) hx hb htt xin0 xT0 xTo0 xNm0 hown hK hP hD hS 0 rfl rfl 3 (by decide) (htt _ tw_234) (fun _ h9 => h9) rfl hin rfl (by decide +kernel) rfl rfl (Nat.le_of_ble_eq_true rfl) d_Control_init_66 (fun H locs hP hD hS => ?_)
  have hP : va_P (dC, dI) xcl [(h0, .inr (0, [.ref r1, .ref r6, .ref r11, .ref r12, .null, .ref q18, .ref q19, .int 1, .int 2000, .int 0, .int 0, .int 0, .int 0, .int 0])), (q18, .inr (8, [.int 0, .int 0, .int 0, .int 0])), (q19, .inr (6, [.long 0, .long 0, .int (F_Run_init xM0), .int 0, .int 0, .int 0, .int 0, .int 0]))] H := hP
  have hD : va_D AA [(h0, .inr (0, [.ref r1, .ref r6, .ref r11, .ref r12, .null, .ref q18, .ref q19, .int 1, .int 2000, .int 0, .int 0, .int 0, .int 0, .int 0])), (q18, .inr (8, [.int 0, .int 0, .int 0, .int 0])), (q19, .inr (6, [.long 0, .long 0, .int (F_Run_init xM0), .int 0, .int 0, .int 0, .int 0, .int 0]))] := hD
  refine lv_aload_n hx hb d_Control_init_69 rfl (lv_at hl 0 rfl) ?_
  refine lv_aload hx hb d_Control_init_70 (lv_at hl 5 rfl) ?_
  refine va_putF (D := (dC, dI)) (ci := 0) (v := .ref r13) (ty := (.object "CentrifugeUnit$Records")) (C := "CentrifugeUnit$Control") (T := xF0) (N := 14) hx hb htt xin0 xT0 xTo0 xNm0 hown hK hP hD hS 0 rfl rfl 4 (by decide) (htt _ tw_235) (fun _ h9 => h9) rfl hin rfl (by decide +kernel) rfl rfl (Nat.le_of_ble_eq_true rfl) d_Control_init_72 (fun H locs hP hD hS => ?_)
  have hP : va_P (dC, dI) xcl [(h0, .inr (0, [.ref r1, .ref r6, .ref r11, .ref r12, .ref r13, .ref q18, .ref q19, .int 1, .int 2000, .int 0, .int 0, .int 0, .int 0, .int 0])), (q18, .inr (8, [.int 0, .int 0, .int 0, .int 0])), (q19, .inr (6, [.long 0, .long 0, .int (F_Run_init xM0), .int 0, .int 0, .int 0, .int 0, .int 0]))] H := hP
  have hD : va_D AA [(h0, .inr (0, [.ref r1, .ref r6, .ref r11, .ref r12, .ref r13, .ref q18, .ref q19, .int 1, .int 2000, .int 0, .int 0, .int 0, .int 0, .int 0])), (q18, .inr (8, [.int 0, .int 0, .int 0, .int 0])), (q19, .inr (6, [.long 0, .long 0, .int (F_Run_init xM0), .int 0, .int 0, .int 0, .int 0, .int 0]))] := hD
  have hP9 := hP.sub (ws' := [(h0, .inr (0, [.ref r1, .ref r6, .ref r11, .ref r12, .ref r13, .ref q18, .ref q19, .int 1, .int 2000, .int 0, .int 0, .int 0, .int 0, .int 0])), (q18, .inr (8, [.int 0, .int 0, .int 0, .int 0])), (q19, .inr (6, [.long 0, .long 0, .int (F_Run_init xM0), .int 0, .int 0, .int 0, .int 0, .int 0]))]) [0, 1, 2] rfl
  have hD9 := hD.sub (ws' := [(h0, .inr (0, [.ref r1, .ref r6, .ref r11, .ref r12, .ref r13, .ref q18, .ref q19, .int 1, .int 2000, .int 0, .int 0, .int 0, .int 0, .int 0])), (q18, .inr (8, [.int 0, .int 0, .int 0, .int 0])), (q19, .inr (6, [.long 0, .long 0, .int (F_Run_init xM0), .int 0, .int 0, .int 0, .int 0, .int 0]))]) [0, 1, 2] (by decide) rfl
  exact W.vret hx hb hr (fun t ht hW => ⟨⟨(q18, q19), rfl, trivial, xE_at hP9 hK hD9 ht hW⟩, hS.F ht⟩) hS.2.2 d_Control_init_75
