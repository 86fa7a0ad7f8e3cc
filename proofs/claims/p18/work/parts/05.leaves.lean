abbrev bc_Watch_atRest : ByteArray := prog_10_method_4_code
def y_Watch_atRest : MethodName := ⟨"CentrifugeUnit$Watch", "atRest", "()Z"⟩
theorem d_Watch_atRest_0 : decode bc_Watch_atRest 0 = .ok (.aload_n 0, 1) := by decide +kernel
theorem d_Watch_atRest_1 : decode bc_Watch_atRest 1 = .ok (.getfield 16, 3) := by decide +kernel
theorem d_Watch_atRest_4 : decode bc_Watch_atRest 4 = .ok (.bipush 25, 2) := by decide +kernel
theorem d_Watch_atRest_6 : decode bc_Watch_atRest 6 = .ok (.if_icmp .lt 7, 3) := by decide +kernel
theorem d_Watch_atRest_9 : decode bc_Watch_atRest 9 = .ok (.iconst 1, 1) := by decide +kernel
theorem d_Watch_atRest_10 : decode bc_Watch_atRest 10 = .ok (.goto 4, 3) := by decide +kernel
theorem d_Watch_atRest_13 : decode bc_Watch_atRest 13 = .ok (.iconst 0, 1) := by decide +kernel
theorem d_Watch_atRest_14 : decode bc_Watch_atRest 14 = .ok (.ireturn, 1) := by decide +kernel
def F_Watch_atRest (M : XM) : Int32 := (if (M.1 20) < 25 then 0 else 1)
theorem f01_Watch_atRest (M : XM) : F_Watch_atRest M = 0 ∨ F_Watch_atRest M = 1 := by
  simp only [F_Watch_atRest]; repeat' split
  all_goals first | exact Or.inl rfl | exact Or.inr rfl | simp
set_option maxHeartbeats 4000000 in
set_option maxRecDepth 100000 in
theorem c_Watch_atRest (l : Launch) (dC : Nat → ClassId) (dI : Nat → Nat → Nat) (Z : Nat → ClassId) (A : Nat → Nat) (sz : Nat) (M : XM) : Met l y_Watch_atRest (.code y_Watch_atRest bc_Watch_atRest 1 (some .boolean) :: xw) ({ frames := 0, cells := 0, slots := 0, locals := 0 }) (va_Pc [.ref (A 18)] (xB (dC, dI) xcl (xty Z) sz [(A 18, xc18 Z A M)])) (k2_QcV (.int (F_Watch_atRest M))) 0 0 (fun _ => False) := by
  refine Met.ofW (cc := bc_Watch_atRest) (maxL := 1) (ret := (some .boolean)) (by decide) rfl ?_
  intro p e s m args below meth c s₁ B hml hv
  obtain ⟨rfl, hsz, hP, hK, hD0, hq⟩ := hv
  have hx := B.exec
  have hb := B.bytes
  have hr := B.returns
  have hts := atoms_spec (ws := (.code y_Watch_atRest bc_Watch_atRest 1 (some .boolean) :: xw)) B.pre
  have htt : ∀ w ∈ xw, w.before _ s = true := fun w h => hts w (List.mem_cons_of_mem _ h)
  have hown : s.vm.findClass "CentrifugeUnit$Watch" = some m.cls := findClass_of_methodNamed B.named
  have hlocks := B.notSynchronized
  subst hsz
  have hD : va_D (fun _ => True) [(A 18, .inr (8, [.int (M.1 19), .int (M.1 20), .int (M.1 21), .int (M.1 22)]))] := hD0
  have hP : va_P (dC, dI) xcl [(A 18, .inr (8, [.int (M.1 19), .int (M.1 20), .int (M.1 21), .int (M.1 22)]))] s.heap := hP
  have hl := lv_entry ([.ref (A 18)]) (n := 1) (Nat.le_of_ble_eq_true rfl)
  rw [lg_entry_eq]
  generalize (lg_sl ([.ref (A 18)]) ++ List.replicate (1 - (lg_sl ([.ref (A 18)])).length) Slot.unset).toArray = ls at hl ⊢
  have hl : lv_has ls 1 [(0, .ref (A 18))] := hl
  refine lv_aload_n hx hb d_Watch_atRest_0 rfl (lv_at hl 0 rfl) ?_
  refine va_get (D := (dC, dI)) (ci := 8) (v := .int (M.1 20)) (C := "CentrifugeUnit$Watch") (T := xF8) (N := 4) hx hb htt xin8 hown hK hP 0 rfl rfl 1 (by decide) (htt _ tw_176) (fun _ h9 => h9) rfl d_Watch_atRest_1 ?_
  refine lv_bipush (v := 25) hx hb d_Watch_atRest_4 (by decide) ?_
  refine lv_icmp_lt (tgt := 13) hx hb d_Watch_atRest_6 rfl (fun h1 => ?_) (fun h1 => ?_)
  · refine lv_iconst (v := 0) hx hb d_Watch_atRest_13 (by decide) ?_
    exact W.zret (ty := .boolean) hx hb hr rfl (fun t ht hW => ⟨(by rw [F_Watch_atRest, if_pos h1]), ht⟩) (fun _ h => absurd h List.not_mem_nil) d_Watch_atRest_14
  · refine lv_iconst (v := 1) hx hb d_Watch_atRest_9 (by decide) ?_
    refine lv_goto (tgt := 14) hx hb d_Watch_atRest_10 rfl ?_
    exact W.zret (ty := .boolean) hx hb hr rfl (fun t ht hW => ⟨(by rw [F_Watch_atRest, if_neg h1]), ht⟩) (fun _ h => absurd h List.not_mem_nil) d_Watch_atRest_14
abbrev bc_Watch_shakesTooLong : ByteArray := prog_10_method_5_code
def y_Watch_shakesTooLong : MethodName := ⟨"CentrifugeUnit$Watch", "shakesTooLong", "()Z"⟩
theorem d_Watch_shakesTooLong_0 : decode bc_Watch_shakesTooLong 0 = .ok (.aload_n 0, 1) := by decide +kernel
theorem d_Watch_shakesTooLong_1 : decode bc_Watch_shakesTooLong 1 = .ok (.getfield 24, 3) := by decide +kernel
theorem d_Watch_shakesTooLong_4 : decode bc_Watch_shakesTooLong 4 = .ok (.iconst 5, 1) := by decide +kernel
theorem d_Watch_shakesTooLong_5 : decode bc_Watch_shakesTooLong 5 = .ok (.if_icmp .lt 7, 3) := by decide +kernel
theorem d_Watch_shakesTooLong_8 : decode bc_Watch_shakesTooLong 8 = .ok (.iconst 1, 1) := by decide +kernel
theorem d_Watch_shakesTooLong_9 : decode bc_Watch_shakesTooLong 9 = .ok (.goto 4, 3) := by decide +kernel
theorem d_Watch_shakesTooLong_12 : decode bc_Watch_shakesTooLong 12 = .ok (.iconst 0, 1) := by decide +kernel
theorem d_Watch_shakesTooLong_13 : decode bc_Watch_shakesTooLong 13 = .ok (.ireturn, 1) := by decide +kernel
def F_Watch_shakesTooLong (M : XM) : Int32 := (if (M.1 21) < 5 then 0 else 1)
theorem f01_Watch_shakesTooLong (M : XM) : F_Watch_shakesTooLong M = 0 ∨ F_Watch_shakesTooLong M = 1 := by
  simp only [F_Watch_shakesTooLong]; repeat' split
  all_goals first | exact Or.inl rfl | exact Or.inr rfl | simp
set_option maxHeartbeats 4000000 in
set_option maxRecDepth 100000 in
theorem c_Watch_shakesTooLong (l : Launch) (dC : Nat → ClassId) (dI : Nat → Nat → Nat) (Z : Nat → ClassId) (A : Nat → Nat) (sz : Nat) (M : XM) : Met l y_Watch_shakesTooLong (.code y_Watch_shakesTooLong bc_Watch_shakesTooLong 1 (some .boolean) :: xw) ({ frames := 0, cells := 0, slots := 0, locals := 0 }) (va_Pc [.ref (A 18)] (xB (dC, dI) xcl (xty Z) sz [(A 18, xc18 Z A M)])) (k2_QcV (.int (F_Watch_shakesTooLong M))) 0 0 (fun _ => False) := by
  refine Met.ofW (cc := bc_Watch_shakesTooLong) (maxL := 1) (ret := (some .boolean)) (by decide) rfl ?_
  intro p e s m args below meth c s₁ B hml hv
  obtain ⟨rfl, hsz, hP, hK, hD0, hq⟩ := hv
  have hx := B.exec
  have hb := B.bytes
  have hr := B.returns
  have hts := atoms_spec (ws := (.code y_Watch_shakesTooLong bc_Watch_shakesTooLong 1 (some .boolean) :: xw)) B.pre
  have htt : ∀ w ∈ xw, w.before _ s = true := fun w h => hts w (List.mem_cons_of_mem _ h)
  have hown : s.vm.findClass "CentrifugeUnit$Watch" = some m.cls := findClass_of_methodNamed B.named
  have hlocks := B.notSynchronized
  subst hsz
  have hD : va_D (fun _ => True) [(A 18, .inr (8, [.int (M.1 19), .int (M.1 20), .int (M.1 21), .int (M.1 22)]))] := hD0
  have hP : va_P (dC, dI) xcl [(A 18, .inr (8, [.int (M.1 19), .int (M.1 20), .int (M.1 21), .int (M.1 22)]))] s.heap := hP
  have hl := lv_entry ([.ref (A 18)]) (n := 1) (Nat.le_of_ble_eq_true rfl)
  rw [lg_entry_eq]
  generalize (lg_sl ([.ref (A 18)]) ++ List.replicate (1 - (lg_sl ([.ref (A 18)])).length) Slot.unset).toArray = ls at hl ⊢
  have hl : lv_has ls 1 [(0, .ref (A 18))] := hl
  refine lv_aload_n hx hb d_Watch_shakesTooLong_0 rfl (lv_at hl 0 rfl) ?_
  refine va_get (D := (dC, dI)) (ci := 8) (v := .int (M.1 21)) (C := "CentrifugeUnit$Watch") (T := xF8) (N := 4) hx hb htt xin8 hown hK hP 0 rfl rfl 2 (by decide) (htt _ tw_177) (fun _ h9 => h9) rfl d_Watch_shakesTooLong_1 ?_
  refine lv_iconst (v := 5) hx hb d_Watch_shakesTooLong_4 (by decide) ?_
  refine lv_icmp_lt (tgt := 12) hx hb d_Watch_shakesTooLong_5 rfl (fun h1 => ?_) (fun h1 => ?_)
  · refine lv_iconst (v := 0) hx hb d_Watch_shakesTooLong_12 (by decide) ?_
    exact W.zret (ty := .boolean) hx hb hr rfl (fun t ht hW => ⟨(by rw [F_Watch_shakesTooLong, if_pos h1]), ht⟩) (fun _ h => absurd h List.not_mem_nil) d_Watch_shakesTooLong_13
  · refine lv_iconst (v := 1) hx hb d_Watch_shakesTooLong_8 (by decide) ?_
    refine lv_goto (tgt := 13) hx hb d_Watch_shakesTooLong_9 rfl ?_
    exact W.zret (ty := .boolean) hx hb hr rfl (fun t ht hW => ⟨(by rw [F_Watch_shakesTooLong, if_neg h1]), ht⟩) (fun _ h => absurd h List.not_mem_nil) d_Watch_shakesTooLong_13
abbrev bc_Watch_differsTooLong : ByteArray := prog_10_method_6_code
def y_Watch_differsTooLong : MethodName := ⟨"CentrifugeUnit$Watch", "differsTooLong", "()Z"⟩
theorem d_Watch_differsTooLong_0 : decode bc_Watch_differsTooLong 0 = .ok (.aload_n 0, 1) := by decide +kernel
theorem d_Watch_differsTooLong_1 : decode bc_Watch_differsTooLong 1 = .ok (.getfield 27, 3) := by decide +kernel
theorem d_Watch_differsTooLong_4 : decode bc_Watch_differsTooLong 4 = .ok (.bipush 10, 2) := by decide +kernel
theorem d_Watch_differsTooLong_6 : decode bc_Watch_differsTooLong 6 = .ok (.if_icmp .lt 7, 3) := by decide +kernel
theorem d_Watch_differsTooLong_9 : decode bc_Watch_differsTooLong 9 = .ok (.iconst 1, 1) := by decide +kernel
theorem d_Watch_differsTooLong_10 : decode bc_Watch_differsTooLong 10 = .ok (.goto 4, 3) := by decide +kernel
theorem d_Watch_differsTooLong_13 : decode bc_Watch_differsTooLong 13 = .ok (.iconst 0, 1) := by decide +kernel
theorem d_Watch_differsTooLong_14 : decode bc_Watch_differsTooLong 14 = .ok (.ireturn, 1) := by decide +kernel
def F_Watch_differsTooLong (M : XM) : Int32 := (if (M.1 22) < 10 then 0 else 1)
theorem f01_Watch_differsTooLong (M : XM) : F_Watch_differsTooLong M = 0 ∨ F_Watch_differsTooLong M = 1 := by
  simp only [F_Watch_differsTooLong]; repeat' split
  all_goals first | exact Or.inl rfl | exact Or.inr rfl | simp
set_option maxHeartbeats 4000000 in
set_option maxRecDepth 100000 in
theorem c_Watch_differsTooLong (l : Launch) (dC : Nat → ClassId) (dI : Nat → Nat → Nat) (Z : Nat → ClassId) (A : Nat → Nat) (sz : Nat) (M : XM) : Met l y_Watch_differsTooLong (.code y_Watch_differsTooLong bc_Watch_differsTooLong 1 (some .boolean) :: xw) ({ frames := 0, cells := 0, slots := 0, locals := 0 }) (va_Pc [.ref (A 18)] (xB (dC, dI) xcl (xty Z) sz [(A 18, xc18 Z A M)])) (k2_QcV (.int (F_Watch_differsTooLong M))) 0 0 (fun _ => False) := by
  refine Met.ofW (cc := bc_Watch_differsTooLong) (maxL := 1) (ret := (some .boolean)) (by decide) rfl ?_
  intro p e s m args below meth c s₁ B hml hv
  obtain ⟨rfl, hsz, hP, hK, hD0, hq⟩ := hv
  have hx := B.exec
  have hb := B.bytes
  have hr := B.returns
  have hts := atoms_spec (ws := (.code y_Watch_differsTooLong bc_Watch_differsTooLong 1 (some .boolean) :: xw)) B.pre
  have htt : ∀ w ∈ xw, w.before _ s = true := fun w h => hts w (List.mem_cons_of_mem _ h)
  have hown : s.vm.findClass "CentrifugeUnit$Watch" = some m.cls := findClass_of_methodNamed B.named
  have hlocks := B.notSynchronized
  subst hsz
  have hD : va_D (fun _ => True) [(A 18, .inr (8, [.int (M.1 19), .int (M.1 20), .int (M.1 21), .int (M.1 22)]))] := hD0
  have hP : va_P (dC, dI) xcl [(A 18, .inr (8, [.int (M.1 19), .int (M.1 20), .int (M.1 21), .int (M.1 22)]))] s.heap := hP
  have hl := lv_entry ([.ref (A 18)]) (n := 1) (Nat.le_of_ble_eq_true rfl)
  rw [lg_entry_eq]
  generalize (lg_sl ([.ref (A 18)]) ++ List.replicate (1 - (lg_sl ([.ref (A 18)])).length) Slot.unset).toArray = ls at hl ⊢
  have hl : lv_has ls 1 [(0, .ref (A 18))] := hl
  refine lv_aload_n hx hb d_Watch_differsTooLong_0 rfl (lv_at hl 0 rfl) ?_
  refine va_get (D := (dC, dI)) (ci := 8) (v := .int (M.1 22)) (C := "CentrifugeUnit$Watch") (T := xF8) (N := 4) hx hb htt xin8 hown hK hP 0 rfl rfl 3 (by decide) (htt _ tw_178) (fun _ h9 => h9) rfl d_Watch_differsTooLong_1 ?_
  refine lv_bipush (v := 10) hx hb d_Watch_differsTooLong_4 (by decide) ?_
  refine lv_icmp_lt (tgt := 13) hx hb d_Watch_differsTooLong_6 rfl (fun h1 => ?_) (fun h1 => ?_)
  · refine lv_iconst (v := 0) hx hb d_Watch_differsTooLong_13 (by decide) ?_
    exact W.zret (ty := .boolean) hx hb hr rfl (fun t ht hW => ⟨(by rw [F_Watch_differsTooLong, if_pos h1]), ht⟩) (fun _ h => absurd h List.not_mem_nil) d_Watch_differsTooLong_14
  · refine lv_iconst (v := 1) hx hb d_Watch_differsTooLong_9 (by decide) ?_
    refine lv_goto (tgt := 14) hx hb d_Watch_differsTooLong_10 rfl ?_
    exact W.zret (ty := .boolean) hx hb hr rfl (fun t ht hW => ⟨(by rw [F_Watch_differsTooLong, if_neg h1]), ht⟩) (fun _ h => absurd h List.not_mem_nil) d_Watch_differsTooLong_14
abbrev bc_Watch_forget : ByteArray := prog_10_method_3_code
def y_Watch_forget : MethodName := ⟨"CentrifugeUnit$Watch", "forget", "()V"⟩
theorem d_Watch_forget_0 : decode bc_Watch_forget 0 = .ok (.aload_n 0, 1) := by decide +kernel
theorem d_Watch_forget_1 : decode bc_Watch_forget 1 = .ok (.iconst 0, 1) := by decide +kernel
theorem d_Watch_forget_2 : decode bc_Watch_forget 2 = .ok (.putfield 16, 3) := by decide +kernel
theorem d_Watch_forget_5 : decode bc_Watch_forget 5 = .ok (.aload_n 0, 1) := by decide +kernel
theorem d_Watch_forget_6 : decode bc_Watch_forget 6 = .ok (.iconst 0, 1) := by decide +kernel
theorem d_Watch_forget_7 : decode bc_Watch_forget 7 = .ok (.putfield 24, 3) := by decide +kernel
theorem d_Watch_forget_10 : decode bc_Watch_forget 10 = .ok (.aload_n 0, 1) := by decide +kernel
theorem d_Watch_forget_11 : decode bc_Watch_forget 11 = .ok (.iconst 0, 1) := by decide +kernel
theorem d_Watch_forget_12 : decode bc_Watch_forget 12 = .ok (.putfield 27, 3) := by decide +kernel
theorem d_Watch_forget_15 : decode bc_Watch_forget 15 = .ok (.return_, 1) := by decide +kernel
abbrev ap_Watch_forget (M : XM) (u : (Int32 × Int32 × Int32)) : XM := ((va_up (va_up (va_up M.1 20 (u.1)) 21 (u.2.1)) 22 (u.2.2)), M.2)
def F_Watch_forget (M : XM) : (Int32 × Int32 × Int32) := (0, 0, 0)
set_option maxHeartbeats 4000000 in
set_option maxRecDepth 100000 in
theorem c_Watch_forget (l : Launch) (dC : Nat → ClassId) (dI : Nat → Nat → Nat) (Z : Nat → ClassId) (A : Nat → Nat) (sz : Nat) (M : XM) : Met l y_Watch_forget (.code y_Watch_forget bc_Watch_forget 1 none :: xw) ({ frames := 0, cells := 0, slots := 0, locals := 0 }) (va_Pc [.ref (A 18)] (xB (dC, dI) xcl (xty Z) sz [(A 18, xc18 Z A M)])) (va_Qv (fun u : (Int32 × Int32 × Int32) => u = F_Watch_forget M) (fun u => xE (dC, dI) xcl (xty Z) (va_A [(A 18, xc18 Z A M)] sz) [(A 18, xc18 Z A (ap_Watch_forget M u))]) (va_A [(A 18, xc18 Z A M)] sz)) 0 0 (va_A [(A 18, xc18 Z A M)] sz) := by
  refine Met.ofW (cc := bc_Watch_forget) (maxL := 1) (ret := none) (by decide) rfl ?_
  intro p e s m args below meth c s₁ B hml hv
  obtain ⟨rfl, hsz, hP, hK, hD0, hq⟩ := hv
  have hx := B.exec
  have hb := B.bytes
  have hr := B.returns
  have hts := atoms_spec (ws := (.code y_Watch_forget bc_Watch_forget 1 none :: xw)) B.pre
  have htt : ∀ w ∈ xw, w.before _ s = true := fun w h => hts w (List.mem_cons_of_mem _ h)
  have hown : s.vm.findClass "CentrifugeUnit$Watch" = some m.cls := findClass_of_methodNamed B.named
  have hlocks := B.notSynchronized
  subst hsz
  have hD := hD0.self (sz := s.heap.size)
  generalize hAe : va_A [(A 18, xc18 Z A M)] s.heap.size = AA at hD ⊢
  have hA : ∀ q : Nat, s.heap.size ≤ q → AA q := fun q h => by rw [← hAe]; exact Or.inr h
  have hS : va_S AA s.heap s.heap [] := va_S.rf
  have hP : va_P (dC, dI) xcl [(A 18, .inr (8, [.int (M.1 19), .int (M.1 20), .int (M.1 21), .int (M.1 22)]))] s.heap := hP
  have hD : va_D AA [(A 18, .inr (8, [.int (M.1 19), .int (M.1 20), .int (M.1 21), .int (M.1 22)]))] := hD
  have hl := lv_entry ([.ref (A 18)]) (n := 1) (Nat.le_of_ble_eq_true rfl)
  rw [lg_entry_eq]
  generalize (lg_sl ([.ref (A 18)]) ++ List.replicate (1 - (lg_sl ([.ref (A 18)])).length) Slot.unset).toArray = ls at hl ⊢
  have hl : lv_has ls 1 [(0, .ref (A 18))] := hl
  refine lv_aload_n hx hb d_Watch_forget_0 rfl (lv_at hl 0 rfl) ?_
  refine lv_iconst (v := 0) hx hb d_Watch_forget_1 (by decide) ?_
  refine va_put (D := (dC, dI)) (ci := 8) (v := .int 0) (ty := .int) (C := "CentrifugeUnit$Watch") (T := xF8) (N := 4) hx hb htt xin8 xT8 xTo8 xNm8 hown hK hP hD hS 0 rfl rfl 1 (by decide) (htt _ tw_176) (fun _ h9 => h9) rfl (by decide +kernel) rfl rfl (Nat.le_of_ble_eq_true rfl) d_Watch_forget_2 (fun H locs hP hD hS => ?_)
  have hP : va_P (dC, dI) xcl [(A 18, .inr (8, [.int (M.1 19), .int 0, .int (M.1 21), .int (M.1 22)]))] H := hP
  have hD : va_D AA [(A 18, .inr (8, [.int (M.1 19), .int 0, .int (M.1 21), .int (M.1 22)]))] := hD
  refine lv_aload_n hx hb d_Watch_forget_5 rfl (lv_at hl 0 rfl) ?_
  refine lv_iconst (v := 0) hx hb d_Watch_forget_6 (by decide) ?_
  refine va_put (D := (dC, dI)) (ci := 8) (v := .int 0) (ty := .int) (C := "CentrifugeUnit$Watch") (T := xF8) (N := 4) hx hb htt xin8 xT8 xTo8 xNm8 hown hK hP hD hS 0 rfl rfl 2 (by decide) (htt _ tw_177) (fun _ h9 => h9) rfl (by decide +kernel) rfl rfl (Nat.le_of_ble_eq_true rfl) d_Watch_forget_7 (fun H locs hP hD hS => ?_)
  have hP : va_P (dC, dI) xcl [(A 18, .inr (8, [.int (M.1 19), .int 0, .int 0, .int (M.1 22)]))] H := hP
  have hD : va_D AA [(A 18, .inr (8, [.int (M.1 19), .int 0, .int 0, .int (M.1 22)]))] := hD
  refine lv_aload_n hx hb d_Watch_forget_10 rfl (lv_at hl 0 rfl) ?_
  refine lv_iconst (v := 0) hx hb d_Watch_forget_11 (by decide) ?_
  refine va_put (D := (dC, dI)) (ci := 8) (v := .int 0) (ty := .int) (C := "CentrifugeUnit$Watch") (T := xF8) (N := 4) hx hb htt xin8 xT8 xTo8 xNm8 hown hK hP hD hS 0 rfl rfl 3 (by decide) (htt _ tw_178) (fun _ h9 => h9) rfl (by decide +kernel) rfl rfl (Nat.le_of_ble_eq_true rfl) d_Watch_forget_12 (fun H locs hP hD hS => ?_)
  have hP : va_P (dC, dI) xcl [(A 18, .inr (8, [.int (M.1 19), .int 0, .int 0, .int 0]))] H := hP
  have hD : va_D AA [(A 18, .inr (8, [.int (M.1 19), .int 0, .int 0, .int 0]))] := hD
  have hP9 := hP.sub (ws' := [(A 18, xc18 Z A (ap_Watch_forget M (0, 0, 0)))]) [0] rfl
  have hD9 := hD.sub (ws' := [(A 18, xc18 Z A (ap_Watch_forget M (0, 0, 0)))]) [0] (by decide) rfl
  exact W.vret hx hb hr (fun t ht hW => ⟨⟨(0, 0, 0), rfl, (by rw [F_Watch_forget]), xE_at hP9 hK hD9 ht hW⟩, hS.F ht⟩) hS.2.2 d_Watch_forget_15
abbrev bc_Watch_count : ByteArray := prog_10_method_2_code
def y_Watch_count : MethodName := ⟨"CentrifugeUnit$Watch", "count", "(LCentrifugeUnit$Sensors;)V"⟩
theorem d_Watch_count_0 : decode bc_Watch_count 0 = .ok (.aload_n 1, 1) := by decide +kernel
theorem d_Watch_count_1 : decode bc_Watch_count 1 = .ok (.getfield 7, 3) := by decide +kernel
theorem d_Watch_count_4 : decode bc_Watch_count 4 = .ok (.istore_n 2, 1) := by decide +kernel
theorem d_Watch_count_5 : decode bc_Watch_count 5 = .ok (.iload_n 2, 1) := by decide +kernel
theorem d_Watch_count_6 : decode bc_Watch_count 6 = .ok (.aload_n 1, 1) := by decide +kernel
theorem d_Watch_count_7 : decode bc_Watch_count 7 = .ok (.getfield 13, 3) := by decide +kernel
theorem d_Watch_count_10 : decode bc_Watch_count 10 = .ok (.isub, 1) := by decide +kernel
theorem d_Watch_count_11 : decode bc_Watch_count 11 = .ok (.istore_n 3, 1) := by decide +kernel
theorem d_Watch_count_12 : decode bc_Watch_count 12 = .ok (.aload_n 0, 1) := by decide +kernel
theorem d_Watch_count_13 : decode bc_Watch_count 13 = .ok (.iload_n 2, 1) := by decide +kernel
theorem d_Watch_count_14 : decode bc_Watch_count 14 = .ok (.ifCond .ne 12, 3) := by decide +kernel
theorem d_Watch_count_17 : decode bc_Watch_count 17 = .ok (.aload_n 0, 1) := by decide +kernel
theorem d_Watch_count_18 : decode bc_Watch_count 18 = .ok (.getfield 16, 3) := by decide +kernel
theorem d_Watch_count_21 : decode bc_Watch_count 21 = .ok (.iconst 1, 1) := by decide +kernel
theorem d_Watch_count_22 : decode bc_Watch_count 22 = .ok (.iadd, 1) := by decide +kernel
theorem d_Watch_count_23 : decode bc_Watch_count 23 = .ok (.goto 4, 3) := by decide +kernel
theorem d_Watch_count_26 : decode bc_Watch_count 26 = .ok (.iconst 0, 1) := by decide +kernel
theorem d_Watch_count_27 : decode bc_Watch_count 27 = .ok (.putfield 16, 3) := by decide +kernel
theorem d_Watch_count_30 : decode bc_Watch_count 30 = .ok (.aload_n 0, 1) := by decide +kernel
theorem d_Watch_count_31 : decode bc_Watch_count 31 = .ok (.aload_n 0, 1) := by decide +kernel
theorem d_Watch_count_32 : decode bc_Watch_count 32 = .ok (.getfield 21, 3) := by decide +kernel
theorem d_Watch_count_35 : decode bc_Watch_count 35 = .ok (.sipush 200, 3) := by decide +kernel
theorem d_Watch_count_38 : decode bc_Watch_count 38 = .ok (.iload_n 2, 1) := by decide +kernel
theorem d_Watch_count_39 : decode bc_Watch_count 39 = .ok (.bipush 20, 2) := by decide +kernel
theorem d_Watch_count_41 : decode bc_Watch_count 41 = .ok (.idiv, 1) := by decide +kernel
theorem d_Watch_count_42 : decode bc_Watch_count 42 = .ok (.iadd, 1) := by decide +kernel
theorem d_Watch_count_43 : decode bc_Watch_count 43 = .ok (.if_icmp .le 12, 3) := by decide +kernel
theorem d_Watch_count_46 : decode bc_Watch_count 46 = .ok (.aload_n 0, 1) := by decide +kernel
theorem d_Watch_count_47 : decode bc_Watch_count 47 = .ok (.getfield 24, 3) := by decide +kernel
theorem d_Watch_count_50 : decode bc_Watch_count 50 = .ok (.iconst 1, 1) := by decide +kernel
theorem d_Watch_count_51 : decode bc_Watch_count 51 = .ok (.iadd, 1) := by decide +kernel
theorem d_Watch_count_52 : decode bc_Watch_count 52 = .ok (.goto 4, 3) := by decide +kernel
theorem d_Watch_count_55 : decode bc_Watch_count 55 = .ok (.iconst 0, 1) := by decide +kernel
theorem d_Watch_count_56 : decode bc_Watch_count 56 = .ok (.putfield 24, 3) := by decide +kernel
theorem d_Watch_count_59 : decode bc_Watch_count 59 = .ok (.aload_n 0, 1) := by decide +kernel
theorem d_Watch_count_60 : decode bc_Watch_count 60 = .ok (.iload_n 3, 1) := by decide +kernel
theorem d_Watch_count_61 : decode bc_Watch_count 61 = .ok (.bipush 100, 2) := by decide +kernel
theorem d_Watch_count_63 : decode bc_Watch_count 63 = .ok (.iload_n 2, 1) := by decide +kernel
theorem d_Watch_count_64 : decode bc_Watch_count 64 = .ok (.bipush 10, 2) := by decide +kernel
theorem d_Watch_count_66 : decode bc_Watch_count 66 = .ok (.idiv, 1) := by decide +kernel
theorem d_Watch_count_67 : decode bc_Watch_count 67 = .ok (.iadd, 1) := by decide +kernel
theorem d_Watch_count_68 : decode bc_Watch_count 68 = .ok (.if_icmp .le 12, 3) := by decide +kernel
theorem d_Watch_count_71 : decode bc_Watch_count 71 = .ok (.aload_n 0, 1) := by decide +kernel
theorem d_Watch_count_72 : decode bc_Watch_count 72 = .ok (.getfield 27, 3) := by decide +kernel
theorem d_Watch_count_75 : decode bc_Watch_count 75 = .ok (.iconst 1, 1) := by decide +kernel
theorem d_Watch_count_76 : decode bc_Watch_count 76 = .ok (.iadd, 1) := by decide +kernel
theorem d_Watch_count_77 : decode bc_Watch_count 77 = .ok (.goto 4, 3) := by decide +kernel
theorem d_Watch_count_80 : decode bc_Watch_count 80 = .ok (.iconst 0, 1) := by decide +kernel
theorem d_Watch_count_81 : decode bc_Watch_count 81 = .ok (.putfield 27, 3) := by decide +kernel
theorem d_Watch_count_84 : decode bc_Watch_count 84 = .ok (.return_, 1) := by decide +kernel
abbrev ap_Watch_count (M : XM) (u : (Int32 × Int32 × Int32)) : XM := ((va_up (va_up (va_up M.1 20 (u.1)) 21 (u.2.1)) 22 (u.2.2)), M.2)
def F_Watch_count_k6 (M : XM) (j1 : Int32) (j3 : Int32) (j5 : Int32) : (Int32 × Int32 × Int32) := (j1, j3, j5)
def F_Watch_count_j5 (M : XM) (j1 : Int32) (j3 : Int32) : Int32 := (if ((M.1 6) - (M.1 7)) ≤ (100 + ((M.1 6) / 10)) then 0 else ((M.1 22) + 1))
def F_Watch_count_k4 (M : XM) (j1 : Int32) (j3 : Int32) : (Int32 × Int32 × Int32) := (F_Watch_count_k6 M j1 j3 (F_Watch_count_j5 M j1 j3))
def F_Watch_count_j3 (M : XM) (j1 : Int32) : Int32 := (if (M.1 19) ≤ (200 + ((M.1 6) / 20)) then 0 else ((M.1 21) + 1))
def F_Watch_count_k2 (M : XM) (j1 : Int32) : (Int32 × Int32 × Int32) := (F_Watch_count_k4 M j1 (F_Watch_count_j3 M j1))
def F_Watch_count_j1 (M : XM) : Int32 := (if (M.1 6) = 0 then ((M.1 20) + 1) else 0)
def F_Watch_count (M : XM) : (Int32 × Int32 × Int32) := (F_Watch_count_k2 M (F_Watch_count_j1 M))
set_option maxHeartbeats 4000000 in
set_option maxRecDepth 100000 in
theorem c_Watch_count (l : Launch) (dC : Nat → ClassId) (dI : Nat → Nat → Nat) (Z : Nat → ClassId) (A : Nat → Nat) (sz : Nat) (M : XM) : Met l y_Watch_count (.code y_Watch_count bc_Watch_count 4 none :: xw) ({ frames := 0, cells := 0, slots := 0, locals := 0 }) (va_Pc [.ref (A 18), .ref (A 11)] (xB (dC, dI) xcl (xty Z) sz [(A 18, xc18 Z A M), (A 11, xc11 Z A M)])) (va_Qv (fun u : (Int32 × Int32 × Int32) => u = F_Watch_count M) (fun u => xE (dC, dI) xcl (xty Z) (va_A [(A 18, xc18 Z A M), (A 11, xc11 Z A M)] sz) [(A 18, xc18 Z A (ap_Watch_count M u)), (A 11, xc11 Z A (ap_Watch_count M u))]) (va_A [(A 18, xc18 Z A M), (A 11, xc11 Z A M)] sz)) 0 0 (va_A [(A 18, xc18 Z A M), (A 11, xc11 Z A M)] sz) := by
  refine Met.ofW (cc := bc_Watch_count) (maxL := 4) (ret := none) (by decide) rfl ?_
  intro p e s m args below meth c s₁ B hml hv
  obtain ⟨rfl, hsz, hP, hK, hD0, hq⟩ := hv
  have hx := B.exec
  have hb := B.bytes
  have hr := B.returns
  have hts := atoms_spec (ws := (.code y_Watch_count bc_Watch_count 4 none :: xw)) B.pre
  have htt : ∀ w ∈ xw, w.before _ s = true := fun w h => hts w (List.mem_cons_of_mem _ h)
  have hown : s.vm.findClass "CentrifugeUnit$Watch" = some m.cls := findClass_of_methodNamed B.named
  have hlocks := B.notSynchronized
  subst hsz
  have hD := hD0.self (sz := s.heap.size)
  generalize hAe : va_A [(A 18, xc18 Z A M), (A 11, xc11 Z A M)] s.heap.size = AA at hD ⊢
  have hA : ∀ q : Nat, s.heap.size ≤ q → AA q := fun q h => by rw [← hAe]; exact Or.inr h
  have hS : va_S AA s.heap s.heap [] := va_S.rf
  have hP : va_P (dC, dI) xcl [(A 18, .inr (8, [.int (M.1 19), .int (M.1 20), .int (M.1 21), .int (M.1 22)])), (A 11, .inr (7, [.int (M.1 2), .int (M.1 3), .int (M.1 4), .int (M.1 5), .int (M.1 6), .int (M.1 7)]))] s.heap := hP
  have hD : va_D AA [(A 18, .inr (8, [.int (M.1 19), .int (M.1 20), .int (M.1 21), .int (M.1 22)])), (A 11, .inr (7, [.int (M.1 2), .int (M.1 3), .int (M.1 4), .int (M.1 5), .int (M.1 6), .int (M.1 7)]))] := hD
  have hl := lv_entry ([.ref (A 18), .ref (A 11)]) (n := 4) (Nat.le_of_ble_eq_true rfl)
  rw [lg_entry_eq]
  generalize (lg_sl ([.ref (A 18), .ref (A 11)]) ++ List.replicate (4 - (lg_sl ([.ref (A 18), .ref (A 11)])).length) Slot.unset).toArray = ls at hl ⊢
  have hl : lv_has ls 4 [(0, .ref (A 18)), (1, .ref (A 11))] := hl
  refine lv_aload_n hx hb d_Watch_count_0 rfl (lv_at hl 1 rfl) ?_
  refine va_get (D := (dC, dI)) (ci := 7) (v := .int (M.1 6)) (C := "CentrifugeUnit$Sensors") (T := xF7) (N := 6) hx hb htt xin7 hown hK hP 1 rfl rfl 4 (by decide) (htt _ tw_103) (fun _ h9 => h9) rfl d_Watch_count_1 ?_
  refine lv_istore_n (lv' := [(2, .int (M.1 6)), (0, .ref (A 18)), (1, .ref (A 11))]) hx hb d_Watch_count_4 rfl hl (by decide) rfl (fun ls hl => ?_)
  refine lv_iload_n hx hb d_Watch_count_5 rfl (lv_at hl 0 rfl) ?_
  refine lv_aload_n hx hb d_Watch_count_6 rfl (lv_at hl 2 rfl) ?_
  refine va_get (D := (dC, dI)) (ci := 7) (v := .int (M.1 7)) (C := "CentrifugeUnit$Sensors") (T := xF7) (N := 6) hx hb htt xin7 hown hK hP 1 rfl rfl 5 (by decide) (htt _ tw_107) (fun _ h9 => h9) rfl d_Watch_count_7 ?_
  refine lv_isub hx hb d_Watch_count_10 ?_
  refine lv_istore_n (lv' := [(3, .int ((M.1 6) - (M.1 7))), (2, .int (M.1 6)), (0, .ref (A 18)), (1, .ref (A 11))]) hx hb d_Watch_count_11 rfl hl (by decide) rfl (fun ls hl => ?_)
  refine lv_aload_n hx hb d_Watch_count_12 rfl (lv_at hl 2 rfl) ?_
  refine lv_iload_n hx hb d_Watch_count_13 rfl (lv_at hl 1 rfl) ?_
  refine xj_p 4 27 (fun q9 : Int32 => [(3, .int ((M.1 6) - (M.1 7))), (2, .int (M.1 6)), (0, .ref (A 18)), (1, .ref (A 11))]) (fun q9 : Int32 => [.int q9, .ref (A 18)]) (fun q9 : Int32 => q9 = F_Watch_count_j1 M) (fun hJ2 => ?_) (fun ls j1 hl hj1 => ?_)
  · refine lv_if_ne (tgt := 26) hx hb d_Watch_count_14 rfl (fun h9 => ?_) (fun h9 => ?_)
    · refine lv_iconst (v := 0) hx hb d_Watch_count_26 (by decide) ?_
      exact hJ2 _ 0 (lv_sub hl [0, 1, 2, 3] rfl) (by rw [F_Watch_count_j1, if_neg h9])
    · refine lv_aload_n hx hb d_Watch_count_17 rfl (lv_at hl 2 rfl) ?_
      refine va_get (D := (dC, dI)) (ci := 8) (v := .int (M.1 20)) (C := "CentrifugeUnit$Watch") (T := xF8) (N := 4) hx hb htt xin8 hown hK hP 0 rfl rfl 1 (by decide) (htt _ tw_176) (fun _ h9 => h9) rfl d_Watch_count_18 ?_
      refine lv_iconst (v := 1) hx hb d_Watch_count_21 (by decide) ?_
      refine lv_iadd hx hb d_Watch_count_22 ?_
      refine lv_goto (tgt := 27) hx hb d_Watch_count_23 rfl ?_
      exact hJ2 _ ((M.1 20) + 1) (lv_sub hl [0, 1, 2, 3] rfl) (by rw [F_Watch_count_j1, if_pos h9])
  · refine va_put (D := (dC, dI)) (ci := 8) (v := .int j1) (ty := .int) (C := "CentrifugeUnit$Watch") (T := xF8) (N := 4) hx hb htt xin8 xT8 xTo8 xNm8 hown hK hP hD hS 0 rfl rfl 1 (by decide) (htt _ tw_176) (fun _ h9 => h9) rfl (by decide +kernel) rfl rfl (Nat.le_of_ble_eq_true rfl) d_Watch_count_27 (fun H locs hP hD hS => ?_)
    have hP : va_P (dC, dI) xcl [(A 18, .inr (8, [.int (M.1 19), .int j1, .int (M.1 21), .int (M.1 22)])), (A 11, .inr (7, [.int (M.1 2), .int (M.1 3), .int (M.1 4), .int (M.1 5), .int (M.1 6), .int (M.1 7)]))] H := hP
    have hD : va_D AA [(A 18, .inr (8, [.int (M.1 19), .int j1, .int (M.1 21), .int (M.1 22)])), (A 11, .inr (7, [.int (M.1 2), .int (M.1 3), .int (M.1 4), .int (M.1 5), .int (M.1 6), .int (M.1 7)]))] := hD
    refine lv_aload_n hx hb d_Watch_count_30 rfl (lv_at hl 2 rfl) ?_
    refine lv_aload_n hx hb d_Watch_count_31 rfl (lv_at hl 2 rfl) ?_
    refine va_get (D := (dC, dI)) (ci := 8) (v := .int (M.1 19)) (C := "CentrifugeUnit$Watch") (T := xF8) (N := 4) hx hb htt xin8 hown hK hP 0 rfl rfl 0 (by decide) (htt _ tw_174) (fun _ h9 => h9) rfl d_Watch_count_32 ?_
    refine lv_sipush (v := 200) hx hb d_Watch_count_35 (by decide) ?_
    refine lv_iload_n hx hb d_Watch_count_38 rfl (lv_at hl 1 rfl) ?_
    refine lv_bipush (v := 20) hx hb d_Watch_count_39 (by decide) ?_
    refine lv_idiv hx hb d_Watch_count_41 (by decide) ?_
    refine lv_iadd hx hb d_Watch_count_42 ?_
    refine xj_p 4 56 (fun q9 : Int32 => [(3, .int ((M.1 6) - (M.1 7))), (2, .int (M.1 6)), (0, .ref (A 18)), (1, .ref (A 11))]) (fun q9 : Int32 => [.int q9, .ref (A 18)]) (fun q9 : Int32 => q9 = F_Watch_count_j3 M j1) (fun hJ4 => ?_) (fun ls j3 hl hj3 => ?_)
    · refine lv_icmp_le (tgt := 55) hx hb d_Watch_count_43 rfl (fun h8 => ?_) (fun h8 => ?_)
      · refine lv_iconst (v := 0) hx hb d_Watch_count_55 (by decide) ?_
        exact hJ4 _ 0 (lv_sub hl [0, 1, 2, 3] rfl) (by rw [F_Watch_count_j3, if_pos h8])
      · refine lv_aload_n hx hb d_Watch_count_46 rfl (lv_at hl 2 rfl) ?_
        refine va_get (D := (dC, dI)) (ci := 8) (v := .int (M.1 21)) (C := "CentrifugeUnit$Watch") (T := xF8) (N := 4) hx hb htt xin8 hown hK hP 0 rfl rfl 2 (by decide) (htt _ tw_177) (fun _ h9 => h9) rfl d_Watch_count_47 ?_
        refine lv_iconst (v := 1) hx hb d_Watch_count_50 (by decide) ?_
        refine lv_iadd hx hb d_Watch_count_51 ?_
        refine lv_goto (tgt := 56) hx hb d_Watch_count_52 rfl ?_
        exact hJ4 _ ((M.1 21) + 1) (lv_sub hl [0, 1, 2, 3] rfl) (by rw [F_Watch_count_j3, if_neg h8])
    · refine va_put (D := (dC, dI)) (ci := 8) (v := .int j3) (ty := .int) (C := "CentrifugeUnit$Watch") (T := xF8) (N := 4) hx hb htt xin8 xT8 xTo8 xNm8 hown hK hP hD hS 0 rfl rfl 2 (by decide) (htt _ tw_177) (fun _ h9 => h9) rfl (by decide +kernel) rfl rfl (Nat.le_of_ble_eq_true rfl) d_Watch_count_56 (fun H locs hP hD hS => ?_)
      have hP : va_P (dC, dI) xcl [(A 18, .inr (8, [.int (M.1 19), .int j1, .int j3, .int (M.1 22)])), (A 11, .inr (7, [.int (M.1 2), .int (M.1 3), .int (M.1 4), .int (M.1 5), .int (M.1 6), .int (M.1 7)]))] H := hP
      have hD : va_D AA [(A 18, .inr (8, [.int (M.1 19), .int j1, .int j3, .int (M.1 22)])), (A 11, .inr (7, [.int (M.1 2), .int (M.1 3), .int (M.1 4), .int (M.1 5), .int (M.1 6), .int (M.1 7)]))] := hD
      refine lv_aload_n hx hb d_Watch_count_59 rfl (lv_at hl 2 rfl) ?_
      refine lv_iload_n hx hb d_Watch_count_60 rfl (lv_at hl 0 rfl) ?_
      refine lv_bipush (v := 100) hx hb d_Watch_count_61 (by decide) ?_
      refine lv_iload_n hx hb d_Watch_count_63 rfl (lv_at hl 1 rfl) ?_
      refine lv_bipush (v := 10) hx hb d_Watch_count_64 (by decide) ?_
      refine lv_idiv hx hb d_Watch_count_66 (by decide) ?_
      refine lv_iadd hx hb d_Watch_count_67 ?_
      refine xj_p 4 81 (fun q9 : Int32 => [(3, .int ((M.1 6) - (M.1 7))), (2, .int (M.1 6)), (0, .ref (A 18)), (1, .ref (A 11))]) (fun q9 : Int32 => [.int q9, .ref (A 18)]) (fun q9 : Int32 => q9 = F_Watch_count_j5 M j1 j3) (fun hJ6 => ?_) (fun ls j5 hl hj5 => ?_)
      · refine lv_icmp_le (tgt := 80) hx hb d_Watch_count_68 rfl (fun h7 => ?_) (fun h7 => ?_)
        · refine lv_iconst (v := 0) hx hb d_Watch_count_80 (by decide) ?_
          exact hJ6 _ 0 (lv_sub hl [0, 1, 2, 3] rfl) (by rw [F_Watch_count_j5, if_pos h7])
        · refine lv_aload_n hx hb d_Watch_count_71 rfl (lv_at hl 2 rfl) ?_
          refine va_get (D := (dC, dI)) (ci := 8) (v := .int (M.1 22)) (C := "CentrifugeUnit$Watch") (T := xF8) (N := 4) hx hb htt xin8 hown hK hP 0 rfl rfl 3 (by decide) (htt _ tw_178) (fun _ h9 => h9) rfl d_Watch_count_72 ?_
          refine lv_iconst (v := 1) hx hb d_Watch_count_75 (by decide) ?_
          refine lv_iadd hx hb d_Watch_count_76 ?_
          refine lv_goto (tgt := 81) hx hb d_Watch_count_77 rfl ?_
          exact hJ6 _ ((M.1 22) + 1) (lv_sub hl [0, 1, 2, 3] rfl) (by rw [F_Watch_count_j5, if_neg h7])
      · refine va_put (D := (dC, dI)) (ci := 8) (v := .int j5) (ty := .int) (C := "CentrifugeUnit$Watch") (T := xF8) (N := 4) hx hb htt xin8 xT8 xTo8 xNm8 hown hK hP hD hS 0 rfl rfl 3 (by decide) (htt _ tw_178) (fun _ h9 => h9) rfl (by decide +kernel) rfl rfl (Nat.le_of_ble_eq_true rfl) d_Watch_count_81 (fun H locs hP hD hS => ?_)
        have hP : va_P (dC, dI) xcl [(A 18, .inr (8, [.int (M.1 19), .int j1, .int j3, .int j5])), (A 11, .inr (7, [.int (M.1 2), .int (M.1 3), .int (M.1 4), .int (M.1 5), .int (M.1 6), .int (M.1 7)]))] H := hP
        have hD : va_D AA [(A 18, .inr (8, [.int (M.1 19), .int j1, .int j3, .int j5])), (A 11, .inr (7, [.int (M.1 2), .int (M.1 3), .int (M.1 4), .int (M.1 5), .int (M.1 6), .int (M.1 7)]))] := hD
        have hP9 := hP.sub (ws' := [(A 18, xc18 Z A (ap_Watch_count M (j1, j3, j5))), (A 11, xc11 Z A (ap_Watch_count M (j1, j3, j5)))]) [0, 1] rfl
        have hD9 := hD.sub (ws' := [(A 18, xc18 Z A (ap_Watch_count M (j1, j3, j5))), (A 11, xc11 Z A (ap_Watch_count M (j1, j3, j5)))]) [0, 1] (by decide) rfl
        exact W.vret hx hb hr (fun t ht hW => ⟨⟨(j1, j3, j5), rfl, (by rw [F_Watch_count, ← hj1, F_Watch_count_k2, ← hj3, F_Watch_count_k4, ← hj5, F_Watch_count_k6]), xE_at hP9 hK hD9 ht hW⟩, hS.F ht⟩) hS.2.2 d_Watch_count_84
abbrev bc_U_within : ByteArray := prog_1_method_19_code
def y_U_within : MethodName := ⟨"CentrifugeUnit", "within", "(III)Z"⟩
theorem d_U_within_0 : decode bc_U_within 0 = .ok (.iload_n 0, 1) := by decide +kernel
theorem d_U_within_1 : decode bc_U_within 1 = .ok (.iload_n 1, 1) := by decide +kernel
theorem d_U_within_2 : decode bc_U_within 2 = .ok (.if_icmp .lt 12, 3) := by decide +kernel
theorem d_U_within_5 : decode bc_U_within 5 = .ok (.iload_n 0, 1) := by decide +kernel
theorem d_U_within_6 : decode bc_U_within 6 = .ok (.iload_n 2, 1) := by decide +kernel
theorem d_U_within_7 : decode bc_U_within 7 = .ok (.if_icmp .gt 7, 3) := by decide +kernel
theorem d_U_within_10 : decode bc_U_within 10 = .ok (.iconst 1, 1) := by decide +kernel
theorem d_U_within_11 : decode bc_U_within 11 = .ok (.goto 4, 3) := by decide +kernel
theorem d_U_within_14 : decode bc_U_within 14 = .ok (.iconst 0, 1) := by decide +kernel
theorem d_U_within_15 : decode bc_U_within 15 = .ok (.ireturn, 1) := by decide +kernel
def F_U_within (M : XM) (a1 : Int32) (a2 : Int32) (a3 : Int32) : Int32 := (if a1 < a2 then 0 else (if a3 < a1 then 0 else 1))
theorem f01_U_within (M : XM) (a1 : Int32) (a2 : Int32) (a3 : Int32) : F_U_within M a1 a2 a3 = 0 ∨ F_U_within M a1 a2 a3 = 1 := by
  simp only [F_U_within]; repeat' split
  all_goals first | exact Or.inl rfl | exact Or.inr rfl | simp
set_option maxHeartbeats 4000000 in
set_option maxRecDepth 100000 in
theorem c_U_within (l : Launch) (dC : Nat → ClassId) (dI : Nat → Nat → Nat) (Z : Nat → ClassId) (A : Nat → Nat) (sz : Nat) (M : XM) (a1 : Int32) (a2 : Int32) (a3 : Int32) : Met l y_U_within (.code y_U_within bc_U_within 3 (some .boolean) :: xw) ({ frames := 0, cells := 0, slots := 0, locals := 0 }) (va_Pc [.int a1, .int a2, .int a3] (xB (dC, dI) xcl (xty Z) sz [])) (k2_QcV (.int (F_U_within M a1 a2 a3))) 0 0 (fun _ => False) := by
  refine Met.ofW (cc := bc_U_within) (maxL := 3) (ret := (some .boolean)) (by decide) rfl ?_
  intro p e s m args below meth c s₁ B hml hv
  obtain ⟨rfl, hsz, hP, hK, hD0, hq⟩ := hv
  have hx := B.exec
  have hb := B.bytes
  have hr := B.returns
  have hts := atoms_spec (ws := (.code y_U_within bc_U_within 3 (some .boolean) :: xw)) B.pre
  have htt : ∀ w ∈ xw, w.before _ s = true := fun w h => hts w (List.mem_cons_of_mem _ h)
  have hown : s.vm.findClass "CentrifugeUnit" = some m.cls := findClass_of_methodNamed B.named
  have hlocks := B.notSynchronized
  subst hsz
  have hD : va_D (fun _ => True) [] := hD0
  have hP : va_P (dC, dI) xcl [] s.heap := hP
  have hl := lv_entry ([.int a1, .int a2, .int a3]) (n := 3) (Nat.le_of_ble_eq_true rfl)
  rw [lg_entry_eq]
  generalize (lg_sl ([.int a1, .int a2, .int a3]) ++ List.replicate (3 - (lg_sl ([.int a1, .int a2, .int a3])).length) Slot.unset).toArray = ls at hl ⊢
  have hl : lv_has ls 3 [(0, .int a1), (1, .int a2), (2, .int a3)] := hl
  refine lv_iload_n hx hb d_U_within_0 rfl (lv_at hl 0 rfl) ?_
  refine lv_iload_n hx hb d_U_within_1 rfl (lv_at hl 1 rfl) ?_
  refine lv_icmp_lt (tgt := 14) hx hb d_U_within_2 rfl (fun h1 => ?_) (fun h1 => ?_)
  · refine lv_iconst (v := 0) hx hb d_U_within_14 (by decide) ?_
    exact W.zret (ty := .boolean) hx hb hr rfl (fun t ht hW => ⟨(by rw [F_U_within, if_pos h1]), ht⟩) (fun _ h => absurd h List.not_mem_nil) d_U_within_15
  · refine lv_iload_n hx hb d_U_within_5 rfl (lv_at hl 0 rfl) ?_
    refine lv_iload_n hx hb d_U_within_6 rfl (lv_at hl 2 rfl) ?_
    refine lv_icmp_gt (tgt := 14) hx hb d_U_within_7 rfl (fun h2 => ?_) (fun h2 => ?_)
    · refine lv_iconst (v := 0) hx hb d_U_within_14 (by decide) ?_
      exact W.zret (ty := .boolean) hx hb hr rfl (fun t ht hW => ⟨(by rw [F_U_within, if_neg h1, if_pos h2]), ht⟩) (fun _ h => absurd h List.not_mem_nil) d_U_within_15
    · refine lv_iconst (v := 1) hx hb d_U_within_10 (by decide) ?_
      refine lv_goto (tgt := 15) hx hb d_U_within_11 rfl ?_
      exact W.zret (ty := .boolean) hx hb hr rfl (fun t ht hW => ⟨(by rw [F_U_within, if_neg h1, if_neg h2]), ht⟩) (fun _ h => absurd h List.not_mem_nil) d_U_within_15
abbrev bc_Rotors_exists : ByteArray := prog_7_method_2_code
def y_Rotors_exists : MethodName := ⟨"CentrifugeUnit$Rotors", "exists", "(I)Z"⟩
theorem d_Rotors_exists_0 : decode bc_Rotors_exists 0 = .ok (.iload_n 0, 1) := by decide +kernel
theorem d_Rotors_exists_1 : decode bc_Rotors_exists 1 = .ok (.iconst 0, 1) := by decide +kernel
theorem d_Rotors_exists_2 : decode bc_Rotors_exists 2 = .ok (.iconst 3, 1) := by decide +kernel
theorem d_Rotors_exists_3 : decode bc_Rotors_exists 3 = .ok (.invokestatic 34, 3) := by decide +kernel
theorem d_Rotors_exists_6 : decode bc_Rotors_exists 6 = .ok (.ireturn, 1) := by decide +kernel
def F_Rotors_exists_k1 (M : XM) (a1 : Int32) (z1 : Int32) : Int32 := z1
def F_Rotors_exists (M : XM) (a1 : Int32) : Int32 := (F_Rotors_exists_k1 M a1 (F_U_within M a1 0 3))
theorem f01_Rotors_exists (M : XM) (a1 : Int32) : F_Rotors_exists M a1 = 0 ∨ F_Rotors_exists M a1 = 1 := by
  simp only [F_Rotors_exists_k1, F_Rotors_exists]; repeat' split
  all_goals first | exact Or.inl rfl | exact Or.inr rfl | exact f01_U_within _ _ _ _ | simp
set_option maxHeartbeats 4000000 in
set_option maxRecDepth 100000 in
theorem c_Rotors_exists (l : Launch) (dC : Nat → ClassId) (dI : Nat → Nat → Nat) (Z : Nat → ClassId) (A : Nat → Nat) (sz : Nat) (M : XM) (a1 : Int32) : Met l y_Rotors_exists (.code y_Rotors_exists bc_Rotors_exists 1 (some .boolean) :: xw) ({ frames := 1, cells := 0, slots := 0, locals := 22 }) (va_Pc [.int a1] (xB (dC, dI) xcl (xty Z) sz [])) (k2_QcV (.int (F_Rotors_exists M a1))) 0 0 (fun _ => False) := by
  refine Met.ofW (cc := bc_Rotors_exists) (maxL := 1) (ret := (some .boolean)) (by decide) rfl ?_
  intro p e s m args below meth c s₁ B hml hv
  obtain ⟨rfl, hsz, hP, hK, hD0, hq⟩ := hv
  have hx := B.exec
  have hb := B.bytes
  have hr := B.returns
  have hts := atoms_spec (ws := (.code y_Rotors_exists bc_Rotors_exists 1 (some .boolean) :: xw)) B.pre
  have htt : ∀ w ∈ xw, w.before _ s = true := fun w h => hts w (List.mem_cons_of_mem _ h)
  have hown : s.vm.findClass "CentrifugeUnit$Rotors" = some m.cls := findClass_of_methodNamed B.named
  have hlocks := B.notSynchronized
  subst hsz
  have hD : va_D (fun _ => True) [] := hD0
  have hP : va_P (dC, dI) xcl [] s.heap := hP
  have hl := lv_entry ([.int a1]) (n := 1) (Nat.le_of_ble_eq_true rfl)
  rw [lg_entry_eq]
  generalize (lg_sl ([.int a1]) ++ List.replicate (1 - (lg_sl ([.int a1])).length) Slot.unset).toArray = ls at hl ⊢
  have hl : lv_has ls 1 [(0, .int a1)] := hl
  refine lv_iload_n hx hb d_Rotors_exists_0 rfl (lv_at hl 0 rfl) ?_
  refine lv_iconst (v := 0) hx hb d_Rotors_exists_1 (by decide) ?_
  refine lv_iconst (v := 3) hx hb d_Rotors_exists_2 (by decide) ?_
  have hPc := hP.sub (ws' := []) [] rfl
  have hDc := hD.sub (ws' := []) [] (by decide) rfl
  refine xk_p (va_runSN (As := [.int a1, .int 0, .int 3]) (rest := []) ⟨hx, hb, hml, hown, hts⟩ (c_U_within l dC dI Z A _ M a1 0 3) ⟨va_cnB 3 hts (xw_call _ tw_327) rfl rfl rfl (hq.1 ("CentrifugeUnit$Rotors", 34, y_U_within, "CentrifugeUnit") (by decide +kernel)) (htt _ tw_1) (by decide +kernel) ⟨Nat.le_of_ble_eq_true rfl, Nat.le_of_ble_eq_true rfl⟩, htt _ tw_326, trivial⟩ ⟨xB_blind, fun U hU hW => ⟨rfl, xB_at hPc hK hDc hq U hU hW⟩⟩ rfl rfl hl.1 rfl (lv_room (Nat.le_of_ble_eq_true rfl)) d_Rotors_exists_3 ⟨Nat.le_of_ble_eq_true rfl, Nat.le_of_ble_eq_true rfl⟩) ?_
  refine lv_topi (fun z1 hz1 => ?_)
  exact W.zret (ty := .boolean) hx hb hr (xz_nar (by rw [hz1]; exact f01_U_within M a1 0 3)) (fun t ht hW => ⟨(by rw [F_Rotors_exists, ← hz1, F_Rotors_exists_k1]), ht⟩) (fun _ h => absurd h List.not_mem_nil) d_Rotors_exists_6
abbrev bc_Math_floorMod : ByteArray := prog_17_method_50_code
def y_Math_floorMod : MethodName := ⟨"java/lang/Math", "floorMod", "(II)I"⟩
theorem d_Math_floorMod_0 : decode bc_Math_floorMod 0 = .ok (.iload_n 0, 1) := by decide +kernel
theorem d_Math_floorMod_1 : decode bc_Math_floorMod 1 = .ok (.iload_n 1, 1) := by decide +kernel
theorem d_Math_floorMod_2 : decode bc_Math_floorMod 2 = .ok (.irem, 1) := by decide +kernel
theorem d_Math_floorMod_3 : decode bc_Math_floorMod 3 = .ok (.istore_n 2, 1) := by decide +kernel
theorem d_Math_floorMod_4 : decode bc_Math_floorMod 4 = .ok (.iload_n 0, 1) := by decide +kernel
theorem d_Math_floorMod_5 : decode bc_Math_floorMod 5 = .ok (.iload_n 1, 1) := by decide +kernel
theorem d_Math_floorMod_6 : decode bc_Math_floorMod 6 = .ok (.ixor, 1) := by decide +kernel
theorem d_Math_floorMod_7 : decode bc_Math_floorMod 7 = .ok (.ifCond .ge 11, 3) := by decide +kernel
theorem d_Math_floorMod_10 : decode bc_Math_floorMod 10 = .ok (.iload_n 2, 1) := by decide +kernel
theorem d_Math_floorMod_11 : decode bc_Math_floorMod 11 = .ok (.ifCond .eq 7, 3) := by decide +kernel
theorem d_Math_floorMod_14 : decode bc_Math_floorMod 14 = .ok (.iload_n 2, 1) := by decide +kernel
theorem d_Math_floorMod_15 : decode bc_Math_floorMod 15 = .ok (.iload_n 1, 1) := by decide +kernel
theorem d_Math_floorMod_16 : decode bc_Math_floorMod 16 = .ok (.iadd, 1) := by decide +kernel
theorem d_Math_floorMod_17 : decode bc_Math_floorMod 17 = .ok (.ireturn, 1) := by decide +kernel
theorem d_Math_floorMod_18 : decode bc_Math_floorMod 18 = .ok (.iload_n 2, 1) := by decide +kernel
theorem d_Math_floorMod_19 : decode bc_Math_floorMod 19 = .ok (.ireturn, 1) := by decide +kernel
def F_Math_floorMod (M : XM) (a1 : Int32) (a2 : Int32) : Int32 := (if 0 ≤ (a1 ^^^ a2) then (a1 - a1 / a2 * a2) else (if (a1 - a1 / a2 * a2) = 0 then (a1 - a1 / a2 * a2) else ((a1 - a1 / a2 * a2) + a2)))
set_option maxHeartbeats 4000000 in
set_option maxRecDepth 100000 in
theorem c_Math_floorMod (l : Launch) (dC : Nat → ClassId) (dI : Nat → Nat → Nat) (Z : Nat → ClassId) (A : Nat → Nat) (sz : Nat) (M : XM) (a1 : Int32) (a2 : Int32) (ha2 : ¬ a2 = 0) : Met l y_Math_floorMod (.code y_Math_floorMod bc_Math_floorMod 3 (some .int) :: xw) ({ frames := 0, cells := 0, slots := 0, locals := 0 }) (va_Pc [.int a1, .int a2] (xB (dC, dI) xcl (xty Z) sz [])) (k2_QcV (.int (F_Math_floorMod M a1 a2))) 0 0 (fun _ => False) := by
  refine va_MetF (cc := bc_Math_floorMod) (maxL := 3) (ret := (some .int)) (by decide +kernel) rfl ?_
  intro p e s m args below meth c s₁ B hml hv
  obtain ⟨rfl, hsz, hP, hK, hD0, hq⟩ := hv
  have hx := B.exec
  have hb := B.bytes
  have hr := B.returns
  have hts := atoms_spec (ws := (.code y_Math_floorMod bc_Math_floorMod 3 (some .int) :: xw)) B.pre
  have htt : ∀ w ∈ xw, w.before _ s = true := fun w h => hts w (List.mem_cons_of_mem _ h)
  have hown : s.vm.findClass "java/lang/Math" = some m.cls := findClass_of_methodNamed B.named
  have hlocks := B.notSynchronized
  subst hsz
  have hD : va_D (fun _ => True) [] := hD0
  have hP : va_P (dC, dI) xcl [] s.heap := hP
  have hl := lv_entry ([.int a1, .int a2]) (n := 3) (Nat.le_of_ble_eq_true rfl)
  rw [lg_entry_eq]
  generalize (lg_sl ([.int a1, .int a2]) ++ List.replicate (3 - (lg_sl ([.int a1, .int a2])).length) Slot.unset).toArray = ls at hl ⊢
  have hl : lv_has ls 3 [(0, .int a1), (1, .int a2)] := hl
  refine lv_iload_n hx hb d_Math_floorMod_0 rfl (lv_at hl 0 rfl) ?_
  refine lv_iload_n hx hb d_Math_floorMod_1 rfl (lv_at hl 1 rfl) ?_
  refine lv_irem hx hb d_Math_floorMod_2 ha2 ?_
  refine lv_istore_n (lv' := [(2, .int (a1 - a1 / a2 * a2)), (0, .int a1), (1, .int a2)]) hx hb d_Math_floorMod_3 rfl hl (by decide) rfl (fun ls hl => ?_)
  refine lv_iload_n hx hb d_Math_floorMod_4 rfl (lv_at hl 1 rfl) ?_
  refine lv_iload_n hx hb d_Math_floorMod_5 rfl (lv_at hl 2 rfl) ?_
  refine lv_ixor hx hb d_Math_floorMod_6 ?_
  refine lv_if_ge (tgt := 18) hx hb d_Math_floorMod_7 rfl (fun h1 => ?_) (fun h1 => ?_)
  · refine lv_iload_n hx hb d_Math_floorMod_18 rfl (lv_at hl 0 rfl) ?_
    exact W.iret hx hb hr (fun t ht hW => ⟨(by rw [F_Math_floorMod, if_pos h1]), ht⟩) (fun _ h => absurd h List.not_mem_nil) d_Math_floorMod_19
  · refine lv_iload_n hx hb d_Math_floorMod_10 rfl (lv_at hl 0 rfl) ?_
    refine lv_if_eq (tgt := 18) hx hb d_Math_floorMod_11 rfl (fun h2 => ?_) (fun h2 => ?_)
    · refine lv_iload_n hx hb d_Math_floorMod_18 rfl (lv_at hl 0 rfl) ?_
      exact W.iret hx hb hr (fun t ht hW => ⟨(by rw [F_Math_floorMod, if_neg h1, if_pos h2]), ht⟩) (fun _ h => absurd h List.not_mem_nil) d_Math_floorMod_19
    · refine lv_iload_n hx hb d_Math_floorMod_14 rfl (lv_at hl 0 rfl) ?_
      refine lv_iload_n hx hb d_Math_floorMod_15 rfl (lv_at hl 2 rfl) ?_
      refine lv_iadd hx hb d_Math_floorMod_16 ?_
      exact W.iret hx hb hr (fun t ht hW => ⟨(by rw [F_Math_floorMod, if_neg h1, if_neg h2]), ht⟩) (fun _ h => absurd h List.not_mem_nil) d_Math_floorMod_17
abbrev bc_Lid_locked : ByteArray := prog_3_method_2_code
def y_Lid_locked : MethodName := ⟨"CentrifugeUnit$Lid", "locked", "()Z"⟩
theorem d_Lid_locked_0 : decode bc_Lid_locked 0 = .ok (.aload_n 0, 1) := by decide +kernel
theorem d_Lid_locked_1 : decode bc_Lid_locked 1 = .ok (.getfield 7, 3) := by decide +kernel
theorem d_Lid_locked_4 : decode bc_Lid_locked 4 = .ok (.ifCond .eq 14, 3) := by decide +kernel
theorem d_Lid_locked_7 : decode bc_Lid_locked 7 = .ok (.aload_n 0, 1) := by decide +kernel
theorem d_Lid_locked_8 : decode bc_Lid_locked 8 = .ok (.getfield 13, 3) := by decide +kernel
theorem d_Lid_locked_11 : decode bc_Lid_locked 11 = .ok (.ifCond .ne 7, 3) := by decide +kernel
theorem d_Lid_locked_14 : decode bc_Lid_locked 14 = .ok (.iconst 1, 1) := by decide +kernel
theorem d_Lid_locked_15 : decode bc_Lid_locked 15 = .ok (.goto 4, 3) := by decide +kernel
theorem d_Lid_locked_18 : decode bc_Lid_locked 18 = .ok (.iconst 0, 1) := by decide +kernel
theorem d_Lid_locked_19 : decode bc_Lid_locked 19 = .ok (.ireturn, 1) := by decide +kernel
def F_Lid_locked (M : XM) : Int32 := (if (M.1 8) = 0 then 0 else (if (M.1 9) = 0 then 1 else 0))
theorem f01_Lid_locked (M : XM) : F_Lid_locked M = 0 ∨ F_Lid_locked M = 1 := by
  simp only [F_Lid_locked]; repeat' split
  all_goals first | exact Or.inl rfl | exact Or.inr rfl | simp
set_option maxHeartbeats 4000000 in
set_option maxRecDepth 100000 in
theorem c_Lid_locked (l : Launch) (dC : Nat → ClassId) (dI : Nat → Nat → Nat) (Z : Nat → ClassId) (A : Nat → Nat) (sz : Nat) (M : XM) : Met l y_Lid_locked (.code y_Lid_locked bc_Lid_locked 1 (some .boolean) :: xw) ({ frames := 0, cells := 0, slots := 0, locals := 0 }) (va_Pc [.ref (A 12)] (xB (dC, dI) xcl (xty Z) sz [(A 12, xc12 Z A M)])) (k2_QcV (.int (F_Lid_locked M))) 0 0 (fun _ => False) := by
  refine Met.ofW (cc := bc_Lid_locked) (maxL := 1) (ret := (some .boolean)) (by decide) rfl ?_
  intro p e s m args below meth c s₁ B hml hv
  obtain ⟨rfl, hsz, hP, hK, hD0, hq⟩ := hv
  have hx := B.exec
  have hb := B.bytes
  have hr := B.returns
  have hts := atoms_spec (ws := (.code y_Lid_locked bc_Lid_locked 1 (some .boolean) :: xw)) B.pre
  have htt : ∀ w ∈ xw, w.before _ s = true := fun w h => hts w (List.mem_cons_of_mem _ h)
  have hown : s.vm.findClass "CentrifugeUnit$Lid" = some m.cls := findClass_of_methodNamed B.named
  have hlocks := B.notSynchronized
  subst hsz
  have hD : va_D (fun _ => True) [(A 12, .inr (1, [.int (M.1 8), .int (M.1 9), .int (M.1 10)]))] := hD0
  have hP : va_P (dC, dI) xcl [(A 12, .inr (1, [.int (M.1 8), .int (M.1 9), .int (M.1 10)]))] s.heap := hP
  have hl := lv_entry ([.ref (A 12)]) (n := 1) (Nat.le_of_ble_eq_true rfl)
  rw [lg_entry_eq]
  generalize (lg_sl ([.ref (A 12)]) ++ List.replicate (1 - (lg_sl ([.ref (A 12)])).length) Slot.unset).toArray = ls at hl ⊢
  have hl : lv_has ls 1 [(0, .ref (A 12))] := hl
  refine lv_aload_n hx hb d_Lid_locked_0 rfl (lv_at hl 0 rfl) ?_
  refine va_get (D := (dC, dI)) (ci := 1) (v := .int (M.1 8)) (C := "CentrifugeUnit$Lid") (T := xF1) (N := 3) hx hb htt xin1 hown hK hP 0 rfl rfl 0 (by decide) (htt _ tw_129) (fun _ h9 => h9) rfl d_Lid_locked_1 ?_
  refine lv_if_eq (tgt := 18) hx hb d_Lid_locked_4 rfl (fun h1 => ?_) (fun h1 => ?_)
  · refine lv_iconst (v := 0) hx hb d_Lid_locked_18 (by decide) ?_
    exact W.zret (ty := .boolean) hx hb hr rfl (fun t ht hW => ⟨(by rw [F_Lid_locked, if_pos h1]), ht⟩) (fun _ h => absurd h List.not_mem_nil) d_Lid_locked_19
  · refine lv_aload_n hx hb d_Lid_locked_7 rfl (lv_at hl 0 rfl) ?_
    refine va_get (D := (dC, dI)) (ci := 1) (v := .int (M.1 9)) (C := "CentrifugeUnit$Lid") (T := xF1) (N := 3) hx hb htt xin1 hown hK hP 0 rfl rfl 1 (by decide) (htt _ tw_131) (fun _ h9 => h9) rfl d_Lid_locked_8 ?_
    refine lv_if_ne (tgt := 18) hx hb d_Lid_locked_11 rfl (fun h2 => ?_) (fun h2 => ?_)
    · refine lv_iconst (v := 0) hx hb d_Lid_locked_18 (by decide) ?_
      exact W.zret (ty := .boolean) hx hb hr rfl (fun t ht hW => ⟨(by rw [F_Lid_locked, if_neg h1, if_neg h2]), ht⟩) (fun _ h => absurd h List.not_mem_nil) d_Lid_locked_19
    · refine lv_iconst (v := 1) hx hb d_Lid_locked_14 (by decide) ?_
      refine lv_goto (tgt := 19) hx hb d_Lid_locked_15 rfl ?_
      exact W.zret (ty := .boolean) hx hb hr rfl (fun t ht hW => ⟨(by rw [F_Lid_locked, if_neg h1, if_pos h2]), ht⟩) (fun _ h => absurd h List.not_mem_nil) d_Lid_locked_19
abbrev bc_Lid_askToOpen : ByteArray := prog_3_method_3_code
def y_Lid_askToOpen : MethodName := ⟨"CentrifugeUnit$Lid", "askToOpen", "()V"⟩
theorem d_Lid_askToOpen_0 : decode bc_Lid_askToOpen 0 = .ok (.aload_n 0, 1) := by decide +kernel
theorem d_Lid_askToOpen_1 : decode bc_Lid_askToOpen 1 = .ok (.bipush 10, 2) := by decide +kernel
theorem d_Lid_askToOpen_3 : decode bc_Lid_askToOpen 3 = .ok (.putfield 16, 3) := by decide +kernel
theorem d_Lid_askToOpen_6 : decode bc_Lid_askToOpen 6 = .ok (.return_, 1) := by decide +kernel
abbrev ap_Lid_askToOpen (M : XM) (u : Int32) : XM := ((va_up M.1 10 u), M.2)
def F_Lid_askToOpen (M : XM) : (Int32) := 10
set_option maxHeartbeats 4000000 in
set_option maxRecDepth 100000 in
theorem c_Lid_askToOpen (l : Launch) (dC : Nat → ClassId) (dI : Nat → Nat → Nat) (Z : Nat → ClassId) (A : Nat → Nat) (sz : Nat) (M : XM) : Met l y_Lid_askToOpen (.code y_Lid_askToOpen bc_Lid_askToOpen 1 none :: xw) ({ frames := 0, cells := 0, slots := 0, locals := 0 }) (va_Pc [.ref (A 12)] (xB (dC, dI) xcl (xty Z) sz [(A 12, xc12 Z A M)])) (va_Qv (fun u : Int32 => u = F_Lid_askToOpen M) (fun u => xE (dC, dI) xcl (xty Z) (va_A [(A 12, xc12 Z A M)] sz) [(A 12, xc12 Z A (ap_Lid_askToOpen M u))]) (va_A [(A 12, xc12 Z A M)] sz)) 0 0 (va_A [(A 12, xc12 Z A M)] sz) := by
  refine Met.ofW (cc := bc_Lid_askToOpen) (maxL := 1) (ret := none) (by decide) rfl ?_
  intro p e s m args below meth c s₁ B hml hv
  obtain ⟨rfl, hsz, hP, hK, hD0, hq⟩ := hv
  have hx := B.exec
  have hb := B.bytes
  have hr := B.returns
  have hts := atoms_spec (ws := (.code y_Lid_askToOpen bc_Lid_askToOpen 1 none :: xw)) B.pre
  have htt : ∀ w ∈ xw, w.before _ s = true := fun w h => hts w (List.mem_cons_of_mem _ h)
  have hown : s.vm.findClass "CentrifugeUnit$Lid" = some m.cls := findClass_of_methodNamed B.named
  have hlocks := B.notSynchronized
  subst hsz
  have hD := hD0.self (sz := s.heap.size)
  generalize hAe : va_A [(A 12, xc12 Z A M)] s.heap.size = AA at hD ⊢
  have hA : ∀ q : Nat, s.heap.size ≤ q → AA q := fun q h => by rw [← hAe]; exact Or.inr h
  have hS : va_S AA s.heap s.heap [] := va_S.rf
  have hP : va_P (dC, dI) xcl [(A 12, .inr (1, [.int (M.1 8), .int (M.1 9), .int (M.1 10)]))] s.heap := hP
  have hD : va_D AA [(A 12, .inr (1, [.int (M.1 8), .int (M.1 9), .int (M.1 10)]))] := hD
  have hl := lv_entry ([.ref (A 12)]) (n := 1) (Nat.le_of_ble_eq_true rfl)
  rw [lg_entry_eq]
  generalize (lg_sl ([.ref (A 12)]) ++ List.replicate (1 - (lg_sl ([.ref (A 12)])).length) Slot.unset).toArray = ls at hl ⊢
  have hl : lv_has ls 1 [(0, .ref (A 12))] := hl
  refine lv_aload_n hx hb d_Lid_askToOpen_0 rfl (lv_at hl 0 rfl) ?_
  refine lv_bipush (v := 10) hx hb d_Lid_askToOpen_1 (by decide) ?_
  refine va_put (D := (dC, dI)) (ci := 1) (v := .int 10) (ty := .int) (C := "CentrifugeUnit$Lid") (T := xF1) (N := 3) hx hb htt xin1 xT1 xTo1 xNm1 hown hK hP hD hS 0 rfl rfl 2 (by decide) (htt _ tw_133) (fun _ h9 => h9) rfl (by decide +kernel) rfl rfl (Nat.le_of_ble_eq_true rfl) d_Lid_askToOpen_3 (fun H locs hP hD hS => ?_)
  have hP : va_P (dC, dI) xcl [(A 12, .inr (1, [.int (M.1 8), .int (M.1 9), .int 10]))] H := hP
  have hD : va_D AA [(A 12, .inr (1, [.int (M.1 8), .int (M.1 9), .int 10]))] := hD
  have hP9 := hP.sub (ws' := [(A 12, xc12 Z A (ap_Lid_askToOpen M 10))]) [0] rfl
  have hD9 := hD.sub (ws' := [(A 12, xc12 Z A (ap_Lid_askToOpen M 10))]) [0] (by decide) rfl
  exact W.vret hx hb hr (fun t ht hW => ⟨⟨10, rfl, (by rw [F_Lid_askToOpen]), xE_at hP9 hK hD9 ht hW⟩, hS.F ht⟩) hS.2.2 d_Lid_askToOpen_6
abbrev bc_Lid_feedCoil : ByteArray := prog_3_method_4_code
def y_Lid_feedCoil : MethodName := ⟨"CentrifugeUnit$Lid", "feedCoil", "()Z"⟩
theorem d_Lid_feedCoil_0 : decode bc_Lid_feedCoil 0 = .ok (.aload_n 0, 1) := by decide +kernel
theorem d_Lid_feedCoil_1 : decode bc_Lid_feedCoil 1 = .ok (.getfield 16, 3) := by decide +kernel
theorem d_Lid_feedCoil_4 : decode bc_Lid_feedCoil 4 = .ok (.ifCond .ne 5, 3) := by decide +kernel
theorem d_Lid_feedCoil_7 : decode bc_Lid_feedCoil 7 = .ok (.iconst 0, 1) := by decide +kernel
theorem d_Lid_feedCoil_8 : decode bc_Lid_feedCoil 8 = .ok (.ireturn, 1) := by decide +kernel
theorem d_Lid_feedCoil_9 : decode bc_Lid_feedCoil 9 = .ok (.aload_n 0, 1) := by decide +kernel
theorem d_Lid_feedCoil_10 : decode bc_Lid_feedCoil 10 = .ok (.dup, 1) := by decide +kernel
theorem d_Lid_feedCoil_11 : decode bc_Lid_feedCoil 11 = .ok (.getfield 16, 3) := by decide +kernel
theorem d_Lid_feedCoil_14 : decode bc_Lid_feedCoil 14 = .ok (.iconst 1, 1) := by decide +kernel
theorem d_Lid_feedCoil_15 : decode bc_Lid_feedCoil 15 = .ok (.isub, 1) := by decide +kernel
theorem d_Lid_feedCoil_16 : decode bc_Lid_feedCoil 16 = .ok (.putfield 16, 3) := by decide +kernel
theorem d_Lid_feedCoil_19 : decode bc_Lid_feedCoil 19 = .ok (.iconst 1, 1) := by decide +kernel
theorem d_Lid_feedCoil_20 : decode bc_Lid_feedCoil 20 = .ok (.ireturn, 1) := by decide +kernel
abbrev ap_Lid_feedCoil (M : XM) (u : Int32) : XM := ((va_up M.1 10 u), M.2)
def F_Lid_feedCoil (M : XM) : Int32 × Int32 := (if (M.1 10) = 0 then (0, (M.1 10)) else (1, ((M.1 10) - 1)))
theorem f01_Lid_feedCoil (M : XM) : (F_Lid_feedCoil M).1 = 0 ∨ (F_Lid_feedCoil M).1 = 1 := by
  simp only [F_Lid_feedCoil]; repeat' split
  all_goals first | exact Or.inl rfl | exact Or.inr rfl | simp
set_option maxHeartbeats 4000000 in
set_option maxRecDepth 100000 in
theorem c_Lid_feedCoil (l : Launch) (dC : Nat → ClassId) (dI : Nat → Nat → Nat) (Z : Nat → ClassId) (A : Nat → Nat) (sz : Nat) (M : XM) : Met l y_Lid_feedCoil (.code y_Lid_feedCoil bc_Lid_feedCoil 1 (some .boolean) :: xw) ({ frames := 0, cells := 0, slots := 0, locals := 0 }) (va_Pc [.ref (A 12)] (xB (dC, dI) xcl (xty Z) sz [(A 12, xc12 Z A M)])) (va_Qi (fun (r : Int32) (u : Int32) => (r, u) = F_Lid_feedCoil M) (fun u => xE (dC, dI) xcl (xty Z) (va_A [(A 12, xc12 Z A M)] sz) [(A 12, xc12 Z A (ap_Lid_feedCoil M u))]) (va_A [(A 12, xc12 Z A M)] sz)) 0 0 (va_A [(A 12, xc12 Z A M)] sz) := by
  refine Met.ofW (cc := bc_Lid_feedCoil) (maxL := 1) (ret := (some .boolean)) (by decide) rfl ?_
  intro p e s m args below meth c s₁ B hml hv
  obtain ⟨rfl, hsz, hP, hK, hD0, hq⟩ := hv
  have hx := B.exec
  have hb := B.bytes
  have hr := B.returns
  have hts := atoms_spec (ws := (.code y_Lid_feedCoil bc_Lid_feedCoil 1 (some .boolean) :: xw)) B.pre
  have htt : ∀ w ∈ xw, w.before _ s = true := fun w h => hts w (List.mem_cons_of_mem _ h)
  have hown : s.vm.findClass "CentrifugeUnit$Lid" = some m.cls := findClass_of_methodNamed B.named
  have hlocks := B.notSynchronized
  subst hsz
  have hD := hD0.self (sz := s.heap.size)
  generalize hAe : va_A [(A 12, xc12 Z A M)] s.heap.size = AA at hD ⊢
  have hA : ∀ q : Nat, s.heap.size ≤ q → AA q := fun q h => by rw [← hAe]; exact Or.inr h
  have hS : va_S AA s.heap s.heap [] := va_S.rf
  have hP : va_P (dC, dI) xcl [(A 12, .inr (1, [.int (M.1 8), .int (M.1 9), .int (M.1 10)]))] s.heap := hP
  have hD : va_D AA [(A 12, .inr (1, [.int (M.1 8), .int (M.1 9), .int (M.1 10)]))] := hD
  have hl := lv_entry ([.ref (A 12)]) (n := 1) (Nat.le_of_ble_eq_true rfl)
  rw [lg_entry_eq]
  generalize (lg_sl ([.ref (A 12)]) ++ List.replicate (1 - (lg_sl ([.ref (A 12)])).length) Slot.unset).toArray = ls at hl ⊢
  have hl : lv_has ls 1 [(0, .ref (A 12))] := hl
  refine lv_aload_n hx hb d_Lid_feedCoil_0 rfl (lv_at hl 0 rfl) ?_
  refine va_get (D := (dC, dI)) (ci := 1) (v := .int (M.1 10)) (C := "CentrifugeUnit$Lid") (T := xF1) (N := 3) hx hb htt xin1 hown hK hP 0 rfl rfl 2 (by decide) (htt _ tw_133) (fun _ h9 => h9) rfl d_Lid_feedCoil_1 ?_
  refine lv_if_ne (tgt := 9) hx hb d_Lid_feedCoil_4 rfl (fun h1 => ?_) (fun h1 => ?_)
  · refine lv_aload_n hx hb d_Lid_feedCoil_9 rfl (lv_at hl 0 rfl) ?_
    refine lv_dup hx hb d_Lid_feedCoil_10 rfl ?_
    refine va_get (D := (dC, dI)) (ci := 1) (v := .int (M.1 10)) (C := "CentrifugeUnit$Lid") (T := xF1) (N := 3) hx hb htt xin1 hown hK hP 0 rfl rfl 2 (by decide) (htt _ tw_133) (fun _ h9 => h9) rfl d_Lid_feedCoil_11 ?_
    refine lv_iconst (v := 1) hx hb d_Lid_feedCoil_14 (by decide) ?_
    refine lv_isub hx hb d_Lid_feedCoil_15 ?_
    refine va_put (D := (dC, dI)) (ci := 1) (v := .int ((M.1 10) - 1)) (ty := .int) (C := "CentrifugeUnit$Lid") (T := xF1) (N := 3) hx hb htt xin1 xT1 xTo1 xNm1 hown hK hP hD hS 0 rfl rfl 2 (by decide) (htt _ tw_133) (fun _ h9 => h9) rfl (by decide +kernel) rfl rfl (Nat.le_of_ble_eq_true rfl) d_Lid_feedCoil_16 (fun H locs hP hD hS => ?_)
    have hP : va_P (dC, dI) xcl [(A 12, .inr (1, [.int (M.1 8), .int (M.1 9), .int ((M.1 10) - 1)]))] H := hP
    have hD : va_D AA [(A 12, .inr (1, [.int (M.1 8), .int (M.1 9), .int ((M.1 10) - 1)]))] := hD
    refine lv_iconst (v := 1) hx hb d_Lid_feedCoil_19 (by decide) ?_
    have hP9 := hP.sub (ws' := [(A 12, xc12 Z A (ap_Lid_feedCoil M ((M.1 10) - 1)))]) [0] rfl
    have hD9 := hD.sub (ws' := [(A 12, xc12 Z A (ap_Lid_feedCoil M ((M.1 10) - 1)))]) [0] (by decide) rfl
    exact W.zret (ty := .boolean) hx hb hr rfl (fun t ht hW => ⟨⟨1, ((M.1 10) - 1), rfl, (by rw [F_Lid_feedCoil, if_neg h1]), xE_at hP9 hK hD9 ht hW⟩, hS.F ht⟩) hS.2.2 d_Lid_feedCoil_20
  · refine lv_iconst (v := 0) hx hb d_Lid_feedCoil_7 (by decide) ?_
    have hP9 := hP.sub (ws' := [(A 12, xc12 Z A (ap_Lid_feedCoil M (M.1 10)))]) [0] rfl
    have hD9 := hD.sub (ws' := [(A 12, xc12 Z A (ap_Lid_feedCoil M (M.1 10)))]) [0] (by decide) rfl
    exact W.zret (ty := .boolean) hx hb hr rfl (fun t ht hW => ⟨⟨0, (M.1 10), rfl, (by rw [F_Lid_feedCoil, if_pos h1]), xE_at hP9 hK hD9 ht hW⟩, hS.F ht⟩) hS.2.2 d_Lid_feedCoil_8
