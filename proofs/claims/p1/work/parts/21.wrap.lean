set_option maxRecDepth 20000 in
theorem tw_336 : Cond.classLink "CentrifugeUnitLaw" 13 "java/lang/IllegalArgumentException" ∈ xw := xw_of (List.mem_append_right _ (List.mem_of_getElem? (i := 336) (by decide +kernel))) rfl
set_option maxRecDepth 20000 in
theorem tw_337 : Cond.classLink "CentrifugeUnitLaw" 15 "java/lang/IllegalStateException" ∈ xw := xw_of (List.mem_append_right _ (List.mem_of_getElem? (i := 337) (by decide +kernel))) rfl
set_option maxRecDepth 20000 in
theorem tw_448 : Cond.methodLink "CentrifugeUnitLaw" 17 ⟨"CentrifugeUnit", "put", "(I)V"⟩ ∈ xw := xw_of (List.mem_append_right _ (List.mem_of_getElem? (i := 448) (by decide +kernel))) rfl
set_option maxRecDepth 20000 in
theorem tw_449 : Cond.instanceMethod ⟨"CentrifugeUnit", "put", "(I)V"⟩ ∈ xw := xw_of (List.mem_append_right _ (List.mem_of_getElem? (i := 449) (by decide +kernel))) rfl
set_option maxRecDepth 20000 in
theorem tw_450 : Cond.selects "CentrifugeUnit" ⟨"CentrifugeUnit", "put", "(I)V"⟩ ⟨"CentrifugeUnit", "put", "(I)V"⟩ ∈ xw := xw_of (List.mem_append_right _ (List.mem_of_getElem? (i := 450) (by decide +kernel))) rfl
set_option maxRecDepth 20000 in
theorem tw_451 : Cond.code ⟨"CentrifugeUnit", "put", "(I)V"⟩ prog_1_method_3_code 2 (Option.none : Option Jvm.ClassFile.FieldType) ∈ xw := xw_of (List.mem_append_right _ (List.mem_of_getElem? (i := 451) (by decide +kernel))) rfl
set_option maxRecDepth 20000 in
theorem tw_481 : Cond.methodLink "CentrifugeUnitLaw" 25 ⟨"CentrifugeUnit", "start", "()V"⟩ ∈ xw := xw_of (List.mem_append_right _ (List.mem_of_getElem? (i := 481) (by decide +kernel))) rfl
set_option maxRecDepth 20000 in
theorem tw_482 : Cond.instanceMethod ⟨"CentrifugeUnit", "start", "()V"⟩ ∈ xw := xw_of (List.mem_append_right _ (List.mem_of_getElem? (i := 482) (by decide +kernel))) rfl
set_option maxRecDepth 20000 in
theorem tw_483 : Cond.selects "CentrifugeUnit" ⟨"CentrifugeUnit", "start", "()V"⟩ ⟨"CentrifugeUnit", "start", "()V"⟩ ∈ xw := xw_of (List.mem_append_right _ (List.mem_of_getElem? (i := 483) (by decide +kernel))) rfl
set_option maxRecDepth 20000 in
theorem tw_484 : Cond.code ⟨"CentrifugeUnit", "start", "()V"⟩ prog_1_method_5_code 1 (Option.none : Option Jvm.ClassFile.FieldType) ∈ xw := xw_of (List.mem_append_right _ (List.mem_of_getElem? (i := 484) (by decide +kernel))) rfl
set_option maxRecDepth 20000 in
theorem tw_529 : Cond.methodLink "CentrifugeUnitLaw" 34 ⟨"CentrifugeUnit", "shake", "(I)V"⟩ ∈ xw := xw_of (List.mem_append_right _ (List.mem_of_getElem? (i := 529) (by decide +kernel))) rfl
set_option maxRecDepth 20000 in
theorem tw_530 : Cond.instanceMethod ⟨"CentrifugeUnit", "shake", "(I)V"⟩ ∈ xw := xw_of (List.mem_append_right _ (List.mem_of_getElem? (i := 530) (by decide +kernel))) rfl
set_option maxRecDepth 20000 in
theorem tw_531 : Cond.selects "CentrifugeUnit" ⟨"CentrifugeUnit", "shake", "(I)V"⟩ ⟨"CentrifugeUnit", "shake", "(I)V"⟩ ∈ xw := xw_of (List.mem_append_right _ (List.mem_of_getElem? (i := 531) (by decide +kernel))) rfl
set_option maxRecDepth 20000 in
theorem tw_532 : Cond.code ⟨"CentrifugeUnit", "shake", "(I)V"⟩ prog_1_method_9_code 2 (Option.none : Option Jvm.ClassFile.FieldType) ∈ xw := xw_of (List.mem_append_right _ (List.mem_of_getElem? (i := 532) (by decide +kernel))) rfl
theorem xr_hit {pl : Platform} (hpl : pl.magicAccessors = ({} : Platform).magicAccessors) {s : State} {args : Array Value} {own X : String} {d th : ClassId} (hown : s.vm.findClass own = some d) {x : ExceptionTableEntry} {t : List ExceptionTableEntry} {h pc : Nat} (hc : covers x pc = true) (h0 : x.catchType ≠ 0)
    (hl : (Cond.classLink own x.catchType X).before args s = true) (hcast : (Cond.castable X X).before #[] s = true) (hth : s.vm.findClass X = some th) (hh : h = x.handlerPc) : xt_row pl s d pc th (x :: t) h := by
  obtain ⟨c1, h1, h2⟩ := Cond.classLink_spec hown hl pl hpl
  cases hth.symm.trans h1
  obtain ⟨c3, c4, e3, e4, e5⟩ := Cond.castable_spec (args := #[]) hcast
  cases hth.symm.trans e3
  cases hth.symm.trans e4
  exact Or.inr ⟨hc, h0, th, h2, Or.inl ⟨e5, hh⟩⟩
theorem xr_pass {pl : Platform} (hpl : pl.magicAccessors = ({} : Platform).magicAccessors) {s : State} {args : Array Value} {own X Y : String} {d th : ClassId} (hown : s.vm.findClass own = some d) {x : ExceptionTableEntry} {t : List ExceptionTableEntry} {h pc : Nat} (hc : covers x pc = true) (h0 : x.catchType ≠ 0)
    (hl : (Cond.classLink own x.catchType Y).before args s = true) (hno : (Cond.not (.castable X Y)).before #[] s = true) (hth : s.vm.findClass X = some th) (hr : xt_row pl s d pc th t h) : xt_row pl s d pc th (x :: t) h := by
  obtain ⟨c1, h1, h2⟩ := Cond.classLink_spec hown hl pl hpl
  have hv := Cond.holds_not_iff.mp hno
  simp only [Cond.value, hth, h1] at hv
  exact Or.inr ⟨hc, h0, c1, h2, Or.inr ⟨Option.some.inj hv, hr⟩⟩
theorem xh_table {p : Program} {l : Launch} {x : MethodName} {S : Spec} {code : ByteArray} {maxL : Nat} {ret : Option FieldType} {e : Env} {s : State} {m : MethodId} {args : Array Value} {below : List Frame} {meth : Method} {c : Code} {s₁ : State}
    (B : BodyLoose p l x S code maxL ret e s m args below meth c s₁) {hh : List (Nat × Nat × Nat × Nat)} (h : (Cond.codeWith x code maxL ret hh).before args s = true) : c.exceptionTable.toList.map (fun h => (h.startPc, h.endPc, h.handlerPc, h.catchType)) = hh := by
  obtain ⟨m9, meth9, c9, hn9, h1, h2, -, -, htab, -⟩ := Cond.codeWith_spec (args := args) h
  cases B.named.symm.trans hn9
  cases B.method.symm.trans h1
  cases (Stand.of_body B).code.symm.trans h2
  exact htab
theorem xh_list {t : List ExceptionTableEntry} : ∀ {hh : List (Nat × Nat × Nat × Nat)}, t.map (fun h => (h.startPc, h.endPc, h.handlerPc, h.catchType)) = hh → t = hh.map (fun q => ⟨q.1, q.2.1, q.2.2.1, q.2.2.2⟩) := by
  intro hh h
  rw [← h, List.map_map]
  conv => lhs; rw [← List.map_id t]
  rfl
theorem xP_kept {D : va_G} {cl : List vw_C} {ws : va_W} {H H1 : Heap} (hP : va_P D cl ws H) (ho : ∀ q : Nat, q < H.size → H1[q]? = H[q]?) : va_P D cl ws H1 := hP.kept (fun k q hk => ho q.1 ((hP k q hk).lt))
theorem xS_kept {A : Nat → Prop} {H0 H H1 : Heap} {locs : List Loc} (hS : va_S A H0 H locs) (hz : H.size ≤ H1.size) (ho : ∀ q : Nat, q < H.size → H1[q]? = H[q]?) : va_S A H0 H1 locs :=
  ⟨Nat.le_trans hS.1 hz, fun q h1 h2 => (ho q (Nat.lt_of_lt_of_le h1 hS.1)).trans (hS.2.1 q h1 h2), hS.2.2⟩

abbrev xout (N M : XM) (x : Int64) : XM := (N.1, N.2.1, N.2.2.1, va_up N.2.2.2 32 (vp_updL (M.2.2.2 32) 0 x))
abbrev bc_L_put : ByteArray := method_4_code
def y_L_put : MethodName := ⟨"CentrifugeUnitLaw", "put", "(LCentrifugeUnit;I)I"⟩
def G_L_put (M : XM) (a1 : Int32) : Int32 × XM := (if T_U_put M a1 = 0 then (0, (ap_U_put M (F_U_put M a1))) else (1, M))
theorem tc_L_put (M : XM) (a1 : Int32) : T_U_put M a1 = 0 ∨ T_U_put M a1 = 1 := by
  simp only [T_U_put_k1, T_U_put]; repeat' split
  all_goals simp
theorem d_L_put_0 : decode bc_L_put 0 = .ok (.aload_n 0, 1) := by decide +kernel
theorem d_L_put_1 : decode bc_L_put 1 = .ok (.iload_n 1, 1) := by decide +kernel
theorem d_L_put_2 : decode bc_L_put 2 = .ok (.invokevirtual 17, 3) := by decide +kernel
theorem d_L_put_5 : decode bc_L_put 5 = .ok (.goto 6, 3) := by decide +kernel
theorem d_L_put_8 : decode bc_L_put 8 = .ok (.astore_n 2, 1) := by decide +kernel
theorem d_L_put_9 : decode bc_L_put 9 = .ok (.iconst 1, 1) := by decide +kernel
theorem d_L_put_10 : decode bc_L_put 10 = .ok (.ireturn, 1) := by decide +kernel
theorem d_L_put_11 : decode bc_L_put 11 = .ok (.iconst 0, 1) := by decide +kernel
theorem d_L_put_12 : decode bc_L_put 12 = .ok (.ireturn, 1) := by decide +kernel
set_option maxHeartbeats 4000000 in
set_option maxRecDepth 100000 in
theorem c_L_put (l : Launch) (htl : l.stackTraces = false) (dC : Nat → ClassId) (dI : Nat → Nat → Nat) (Z : Nat → ClassId) (A : Nat → Nat) (sz : Nat) (M : XM) (a1 : Int32) : Met l y_L_put (.codeWith y_L_put bc_L_put 3 (some .int) [(0, 5, 8, 13)] :: xw) ({ frames := 7, cells := 1, slots := 6, locals := 111 }) (va_Pc [.ref (A 0), .int a1] (xBs (dC, dI) xcl (xty Z) sz [(A 0, xc0 Z A M), (A 1, xc1 Z A M)])) (va_Qi (fun (r : Int32) (N : XM) => (r, N) = G_L_put M a1) (fun N => xE (dC, dI) xcl (xty Z) (va_A [(A 0, xc0 Z A M), (A 1, xc1 Z A M)] sz) [(A 0, xc0 Z A N), (A 1, xc1 Z A N)]) (va_A [(A 0, xc0 Z A M), (A 1, xc1 Z A M)] sz)) 1 6 (va_A [(A 0, xc0 Z A M), (A 1, xc1 Z A M)] sz) := by
  refine va_MetW (cc := bc_L_put) (maxL := 3) (ret := (some .int)) (hh := [(0, 5, 8, 13)]) (by decide) rfl ?_
  intro p e s m args below meth c s₁ B hml hv
  obtain ⟨rfl, ⟨hsz, hP, hK, hD0, hq⟩, hs⟩ := hv
  have hx := B.exec
  have hb := B.bytes
  have hr := B.returns
  have hts := atoms_spec (ws := (.codeWith y_L_put bc_L_put 3 (some .int) [(0, 5, 8, 13)] :: xw)) B.pre
  have htt : ∀ w ∈ xw, w.before _ s = true := fun w h => hts w (List.mem_cons_of_mem _ h)
  have hown : s.vm.findClass "CentrifugeUnitLaw" = some m.cls := findClass_of_methodNamed B.named
  have hlocks := B.notSynchronized
  have htab := xh_list (xh_table B (hts _ List.mem_cons_self))
  subst hsz
  have hD := hD0.self (sz := s.heap.size)
  generalize hAe : va_A [(A 0, xc0 Z A M), (A 1, xc1 Z A M)] s.heap.size = AA at hD ⊢
  have hA : ∀ q : Nat, s.heap.size ≤ q → AA q := fun q h => by rw [← hAe]; exact Or.inr h
  have hS : va_S AA s.heap s.heap [] := va_S.rf
  have hP : va_P (dC, dI) xcl [(A 0, .inr (9, [.ref (A 1), .ref (A 6), .ref (A 10), .ref (A 11), .ref (A 12), .ref (A 13), .ref (A 17)])), (A 1, .inr (5, [.ref (A 2), .ref (A 3), .ref (A 4), .ref (A 5), .int (M.1 0)]))] s.heap := hP
  have hD : va_D AA [(A 0, .inr (9, [.ref (A 1), .ref (A 6), .ref (A 10), .ref (A 11), .ref (A 12), .ref (A 13), .ref (A 17)])), (A 1, .inr (5, [.ref (A 2), .ref (A 3), .ref (A 4), .ref (A 5), .int (M.1 0)]))] := hD
  have hl := lv_entry ([.ref (A 0), .int a1]) (n := 3) (Nat.le_of_ble_eq_true rfl)
  rw [lg_entry_eq]
  generalize (lg_sl ([.ref (A 0), .int a1]) ++ List.replicate (3 - (lg_sl ([.ref (A 0), .int a1])).length) Slot.unset).toArray = ls at hl ⊢
  have hl : lv_has ls 3 [(0, .ref (A 0)), (1, .int a1)] := hl
  have hPc := hP.sub (ws' := [(A 0, xc0 Z A M), (A 1, xc1 Z A M)]) [0, 1] rfl
  have hDc := hD.sub (ws' := [(A 0, xc0 Z A M), (A 1, xc1 Z A M)]) [0, 1] (by decide) rfl
  refine lv_aload_n hx hb d_L_put_0 rfl (lv_at hl 0 rfl) ?_
  refine lv_iload_n hx hb d_L_put_1 rfl (lv_at hl 1 rfl) ?_
  rcases tc_L_put M a1 with hT | hT
  · have hG : G_L_put M a1 = (0, (ap_U_put M (F_U_put M a1))) := by rw [G_L_put, if_pos hT]
    refine xk_v (wc := [(A 0, xc0 Z A M), (A 1, xc1 Z A M)]) (wr := []) (va_runV (As := [.int a1]) (rest := []) ⟨hx, hb, hml, hown, hts⟩ (c_U_put l dC dI Z A _ M a1 hT) (cwV 1 hts (xw_V _ tw_448 tw_449 tw_450 tw_1 tw_451) rfl rfl rfl (by decide +kernel) ⟨Nat.le_of_ble_eq_true rfl, Nat.le_of_ble_eq_true rfl⟩) ⟨xB_blind, va_recv (q0 := 0) (ci := 9) hK hP rfl rfl, fun U hU hW => ⟨rfl, xB_at hPc hK hDc hq U hU hW⟩⟩ rfl rfl hl.1 rfl (lv_room (Nat.le_of_ble_eq_true rfl)) d_L_put_2 ⟨Nat.le_of_ble_eq_true rfl, Nat.le_of_ble_eq_true rfl⟩) hP hD hS hA [0, 1] [] rfl rfl (by decide) (by decide) (fun u H locs hu hP hD hS => ?_)
    subst hu
    have hP : va_P (dC, dI) xcl [(A 0, xc0 Z A (ap_U_put M (F_U_put M a1))), (A 1, xc1 Z A (ap_U_put M (F_U_put M a1)))] H := hP
    have hD : va_D AA [(A 0, xc0 Z A (ap_U_put M (F_U_put M a1))), (A 1, xc1 Z A (ap_U_put M (F_U_put M a1)))] := hD
    refine lv_goto (tgt := 11) hx hb d_L_put_5 rfl ?_
    refine lv_iconst (v := 0) hx hb d_L_put_11 (by decide) ?_
    have hP9 := hP.sub (ws' := [(A 0, xc0 Z A (ap_U_put M (F_U_put M a1))), (A 1, xc1 Z A (ap_U_put M (F_U_put M a1)))]) [0, 1] rfl
    have hD9 := hD.sub (ws' := [(A 0, xc0 Z A (ap_U_put M (F_U_put M a1))), (A 1, xc1 Z A (ap_U_put M (F_U_put M a1)))]) [0, 1] (by decide) rfl
    refine W.widen (k := 1) (n := 6) (by decide) (by decide) ?_
    exact W.iret hx hb hr (fun t ht hW => ⟨⟨0, (ap_U_put M (F_U_put M a1)), rfl, hG.symm, xE_at hP9 hK hD9 ht hW⟩, hS.F ht⟩) hS.2.2 d_L_put_12
  · have hG : G_L_put M a1 = (1, M) := by rw [G_L_put, if_neg (by rw [hT]; decide)]
    refine xt_catchV (hpc := 8) (As := [.int a1]) (rest := []) ⟨hx, hb, hml, hown, hts⟩ (t1_U_put l dC dI Z A _ M a1 htl hT) (cwV 1 hts (xw_V _ tw_448 tw_449 tw_450 tw_1 tw_451) rfl rfl rfl (by decide +kernel) ⟨Nat.le_of_ble_eq_true rfl, Nat.le_of_ble_eq_true rfl⟩) ⟨xBs_blind, va_recv (q0 := 0) (ci := 9) hK hP rfl rfl, fun U hU hW => ⟨rfl, xBs_at hPc hK hDc hq hs U hU hW⟩⟩ rfl hl.1 rfl (Nat.le_of_ble_eq_true rfl) d_L_put_2 ⟨Nat.le_of_ble_eq_true rfl, Nat.le_of_ble_eq_true rfl⟩ (fun pl hpl th hth => by
        rw [htab]
        exact xr_hit hpl hown (by decide) (by decide) (htt (.classLink "CentrifugeUnitLaw" 13 "java/lang/IllegalArgumentException") tw_336) (hq.2.2 (.castable "java/lang/IllegalArgumentException" "java/lang/IllegalArgumentException") (by decide +kernel)) hth rfl) (fun xa H1 hz ho => ?_)
    refine lv_astore_n (lv' := [(2, .ref xa), (0, .ref (A 0)), (1, .int a1)]) hx hb d_L_put_8 rfl hl (by decide) rfl (fun ls hl => ?_)
    refine lv_iconst (v := 1) hx hb d_L_put_9 (by decide) ?_
    have hP9 : va_P (dC, dI) xcl [(A 0, xc0 Z A M), (A 1, xc1 Z A M)] H1 := xP_kept hP ho
    have hS := xS_kept hS hz ho
    exact W.iret hx hb hr (fun t ht hW => ⟨⟨1, M, rfl, hG.symm, xE_at hP9 hK hD ht hW⟩, hS.F ht⟩) hS.2.2 d_L_put_10
abbrev bc_L_shake : ByteArray := method_9_code
def y_L_shake : MethodName := ⟨"CentrifugeUnitLaw", "shake", "(LCentrifugeUnit;I)I"⟩
def G_L_shake (M : XM) (a1 : Int32) : Int32 × XM := (if T_U_shake M a1 = 0 then (0, (ap_U_shake M (F_U_shake M a1))) else (1, M))
theorem tc_L_shake (M : XM) (a1 : Int32) : T_U_shake M a1 = 0 ∨ T_U_shake M a1 = 1 := by
  simp only [T_U_shake_k1, T_U_shake]; repeat' split
  all_goals simp
theorem d_L_shake_0 : decode bc_L_shake 0 = .ok (.aload_n 0, 1) := by decide +kernel
theorem d_L_shake_1 : decode bc_L_shake 1 = .ok (.iload_n 1, 1) := by decide +kernel
theorem d_L_shake_2 : decode bc_L_shake 2 = .ok (.invokevirtual 34, 3) := by decide +kernel
theorem d_L_shake_5 : decode bc_L_shake 5 = .ok (.goto 6, 3) := by decide +kernel
theorem d_L_shake_8 : decode bc_L_shake 8 = .ok (.astore_n 2, 1) := by decide +kernel
theorem d_L_shake_9 : decode bc_L_shake 9 = .ok (.iconst 1, 1) := by decide +kernel
theorem d_L_shake_10 : decode bc_L_shake 10 = .ok (.ireturn, 1) := by decide +kernel
theorem d_L_shake_11 : decode bc_L_shake 11 = .ok (.iconst 0, 1) := by decide +kernel
theorem d_L_shake_12 : decode bc_L_shake 12 = .ok (.ireturn, 1) := by decide +kernel
set_option maxHeartbeats 4000000 in
set_option maxRecDepth 100000 in
theorem c_L_shake (l : Launch) (htl : l.stackTraces = false) (dC : Nat → ClassId) (dI : Nat → Nat → Nat) (Z : Nat → ClassId) (A : Nat → Nat) (sz : Nat) (M : XM) (a1 : Int32) : Met l y_L_shake (.codeWith y_L_shake bc_L_shake 3 (some .int) [(0, 5, 8, 13)] :: xw) ({ frames := 7, cells := 1, slots := 6, locals := 111 }) (va_Pc [.ref (A 0), .int a1] (xBs (dC, dI) xcl (xty Z) sz [(A 0, xc0 Z A M), (A 17, xc17 Z A M), (A 18, xc18 Z A M)])) (va_Qi (fun (r : Int32) (N : XM) => (r, N) = G_L_shake M a1) (fun N => xE (dC, dI) xcl (xty Z) (va_A [(A 0, xc0 Z A M), (A 17, xc17 Z A M), (A 18, xc18 Z A M)] sz) [(A 0, xc0 Z A N), (A 17, xc17 Z A N), (A 18, xc18 Z A N)]) (va_A [(A 0, xc0 Z A M), (A 17, xc17 Z A M), (A 18, xc18 Z A M)] sz)) 1 6 (va_A [(A 0, xc0 Z A M), (A 17, xc17 Z A M), (A 18, xc18 Z A M)] sz) := by
  refine va_MetW (cc := bc_L_shake) (maxL := 3) (ret := (some .int)) (hh := [(0, 5, 8, 13)]) (by decide) rfl ?_
  intro p e s m args below meth c s₁ B hml hv
  obtain ⟨rfl, ⟨hsz, hP, hK, hD0, hq⟩, hs⟩ := hv
  have hx := B.exec
  have hb := B.bytes
  have hr := B.returns
  have hts := atoms_spec (ws := (.codeWith y_L_shake bc_L_shake 3 (some .int) [(0, 5, 8, 13)] :: xw)) B.pre
  have htt : ∀ w ∈ xw, w.before _ s = true := fun w h => hts w (List.mem_cons_of_mem _ h)
  have hown : s.vm.findClass "CentrifugeUnitLaw" = some m.cls := findClass_of_methodNamed B.named
  have hlocks := B.notSynchronized
  have htab := xh_list (xh_table B (hts _ List.mem_cons_self))
  subst hsz
  have hD := hD0.self (sz := s.heap.size)
  generalize hAe : va_A [(A 0, xc0 Z A M), (A 17, xc17 Z A M), (A 18, xc18 Z A M)] s.heap.size = AA at hD ⊢
  have hA : ∀ q : Nat, s.heap.size ≤ q → AA q := fun q h => by rw [← hAe]; exact Or.inr h
  have hS : va_S AA s.heap s.heap [] := va_S.rf
  have hP : va_P (dC, dI) xcl [(A 0, .inr (9, [.ref (A 1), .ref (A 6), .ref (A 10), .ref (A 11), .ref (A 12), .ref (A 13), .ref (A 17)])), (A 17, .inr (0, [.ref (A 1), .ref (A 6), .ref (A 11), .ref (A 12), .ref (A 13), .ref (A 18), .ref (A 19), .int (M.1 12), .int (M.1 13), .int (M.1 14), .int (M.1 15), .int (M.1 16), .int (M.1 17), .int (M.1 18)])), (A 18, .inr (8, [.int (M.1 19), .int (M.1 20), .int (M.1 21), .int (M.1 22)]))] s.heap := hP
  have hD : va_D AA [(A 0, .inr (9, [.ref (A 1), .ref (A 6), .ref (A 10), .ref (A 11), .ref (A 12), .ref (A 13), .ref (A 17)])), (A 17, .inr (0, [.ref (A 1), .ref (A 6), .ref (A 11), .ref (A 12), .ref (A 13), .ref (A 18), .ref (A 19), .int (M.1 12), .int (M.1 13), .int (M.1 14), .int (M.1 15), .int (M.1 16), .int (M.1 17), .int (M.1 18)])), (A 18, .inr (8, [.int (M.1 19), .int (M.1 20), .int (M.1 21), .int (M.1 22)]))] := hD
  have hl := lv_entry ([.ref (A 0), .int a1]) (n := 3) (Nat.le_of_ble_eq_true rfl)
  rw [lg_entry_eq]
  generalize (lg_sl ([.ref (A 0), .int a1]) ++ List.replicate (3 - (lg_sl ([.ref (A 0), .int a1])).length) Slot.unset).toArray = ls at hl ⊢
  have hl : lv_has ls 3 [(0, .ref (A 0)), (1, .int a1)] := hl
  have hPc := hP.sub (ws' := [(A 0, xc0 Z A M), (A 17, xc17 Z A M), (A 18, xc18 Z A M)]) [0, 1, 2] rfl
  have hDc := hD.sub (ws' := [(A 0, xc0 Z A M), (A 17, xc17 Z A M), (A 18, xc18 Z A M)]) [0, 1, 2] (by decide) rfl
  refine lv_aload_n hx hb d_L_shake_0 rfl (lv_at hl 0 rfl) ?_
  refine lv_iload_n hx hb d_L_shake_1 rfl (lv_at hl 1 rfl) ?_
  rcases tc_L_shake M a1 with hT | hT
  · have hG : G_L_shake M a1 = (0, (ap_U_shake M (F_U_shake M a1))) := by rw [G_L_shake, if_pos hT]
    refine xk_v (wc := [(A 0, xc0 Z A M), (A 17, xc17 Z A M), (A 18, xc18 Z A M)]) (wr := []) (va_runV (As := [.int a1]) (rest := []) ⟨hx, hb, hml, hown, hts⟩ (c_U_shake l dC dI Z A _ M a1 hT) (cwV 1 hts (xw_V _ tw_529 tw_530 tw_531 tw_1 tw_532) rfl rfl rfl (by decide +kernel) ⟨Nat.le_of_ble_eq_true rfl, Nat.le_of_ble_eq_true rfl⟩) ⟨xB_blind, va_recv (q0 := 0) (ci := 9) hK hP rfl rfl, fun U hU hW => ⟨rfl, xB_at hPc hK hDc hq U hU hW⟩⟩ rfl rfl hl.1 rfl (lv_room (Nat.le_of_ble_eq_true rfl)) d_L_shake_2 ⟨Nat.le_of_ble_eq_true rfl, Nat.le_of_ble_eq_true rfl⟩) hP hD hS hA [0, 1, 2] [] rfl rfl (by decide) (by decide) (fun u H locs hu hP hD hS => ?_)
    subst hu
    have hP : va_P (dC, dI) xcl [(A 0, xc0 Z A (ap_U_shake M (F_U_shake M a1))), (A 17, xc17 Z A (ap_U_shake M (F_U_shake M a1))), (A 18, xc18 Z A (ap_U_shake M (F_U_shake M a1)))] H := hP
    have hD : va_D AA [(A 0, xc0 Z A (ap_U_shake M (F_U_shake M a1))), (A 17, xc17 Z A (ap_U_shake M (F_U_shake M a1))), (A 18, xc18 Z A (ap_U_shake M (F_U_shake M a1)))] := hD
    refine lv_goto (tgt := 11) hx hb d_L_shake_5 rfl ?_
    refine lv_iconst (v := 0) hx hb d_L_shake_11 (by decide) ?_
    have hP9 := hP.sub (ws' := [(A 0, xc0 Z A (ap_U_shake M (F_U_shake M a1))), (A 17, xc17 Z A (ap_U_shake M (F_U_shake M a1))), (A 18, xc18 Z A (ap_U_shake M (F_U_shake M a1)))]) [0, 1, 2] rfl
    have hD9 := hD.sub (ws' := [(A 0, xc0 Z A (ap_U_shake M (F_U_shake M a1))), (A 17, xc17 Z A (ap_U_shake M (F_U_shake M a1))), (A 18, xc18 Z A (ap_U_shake M (F_U_shake M a1)))]) [0, 1, 2] (by decide) rfl
    refine W.widen (k := 1) (n := 6) (by decide) (by decide) ?_
    exact W.iret hx hb hr (fun t ht hW => ⟨⟨0, (ap_U_shake M (F_U_shake M a1)), rfl, hG.symm, xE_at hP9 hK hD9 ht hW⟩, hS.F ht⟩) hS.2.2 d_L_shake_12
  · have hG : G_L_shake M a1 = (1, M) := by rw [G_L_shake, if_neg (by rw [hT]; decide)]
    refine xt_catchV (hpc := 8) (As := [.int a1]) (rest := []) ⟨hx, hb, hml, hown, hts⟩ (t1_U_shake l dC dI Z A _ M a1 htl hT) (cwV 1 hts (xw_V _ tw_529 tw_530 tw_531 tw_1 tw_532) rfl rfl rfl (by decide +kernel) ⟨Nat.le_of_ble_eq_true rfl, Nat.le_of_ble_eq_true rfl⟩) ⟨xBs_blind, va_recv (q0 := 0) (ci := 9) hK hP rfl rfl, fun U hU hW => ⟨rfl, xBs_at hPc hK hDc hq hs U hU hW⟩⟩ rfl hl.1 rfl (Nat.le_of_ble_eq_true rfl) d_L_shake_2 ⟨Nat.le_of_ble_eq_true rfl, Nat.le_of_ble_eq_true rfl⟩ (fun pl hpl th hth => by
        rw [htab]
        exact xr_hit hpl hown (by decide) (by decide) (htt (.classLink "CentrifugeUnitLaw" 13 "java/lang/IllegalArgumentException") tw_336) (hq.2.2 (.castable "java/lang/IllegalArgumentException" "java/lang/IllegalArgumentException") (by decide +kernel)) hth rfl) (fun xa H1 hz ho => ?_)
    refine lv_astore_n (lv' := [(2, .ref xa), (0, .ref (A 0)), (1, .int a1)]) hx hb d_L_shake_8 rfl hl (by decide) rfl (fun ls hl => ?_)
    refine lv_iconst (v := 1) hx hb d_L_shake_9 (by decide) ?_
    have hP9 : va_P (dC, dI) xcl [(A 0, xc0 Z A M), (A 17, xc17 Z A M), (A 18, xc18 Z A M)] H1 := xP_kept hP ho
    have hS := xS_kept hS hz ho
    exact W.iret hx hb hr (fun t ht hW => ⟨⟨1, M, rfl, hG.symm, xE_at hP9 hK hD ht hW⟩, hS.F ht⟩) hS.2.2 d_L_shake_10
abbrev bc_L_start : ByteArray := method_6_code
def y_L_start : MethodName := ⟨"CentrifugeUnitLaw", "start", "(LCentrifugeUnit;)I"⟩
def G_L_start (M : XM) : Int32 × XM := (if T_U_start M = 0 then (0, (ap_U_start M (F_U_start M))) else (1, M))
theorem tc_L_start (M : XM) : T_U_start M = 0 ∨ T_U_start M = 2 := by
  simp only [T_U_start_k2, T_U_start_k1, T_U_start]; repeat' split
  all_goals simp
theorem d_L_start_0 : decode bc_L_start 0 = .ok (.aload_n 0, 1) := by decide +kernel
theorem d_L_start_1 : decode bc_L_start 1 = .ok (.invokevirtual 25, 3) := by decide +kernel
theorem d_L_start_4 : decode bc_L_start 4 = .ok (.goto 6, 3) := by decide +kernel
theorem d_L_start_7 : decode bc_L_start 7 = .ok (.astore_n 1, 1) := by decide +kernel
theorem d_L_start_8 : decode bc_L_start 8 = .ok (.iconst 1, 1) := by decide +kernel
theorem d_L_start_9 : decode bc_L_start 9 = .ok (.ireturn, 1) := by decide +kernel
theorem d_L_start_10 : decode bc_L_start 10 = .ok (.iconst 0, 1) := by decide +kernel
theorem d_L_start_11 : decode bc_L_start 11 = .ok (.ireturn, 1) := by decide +kernel
set_option maxHeartbeats 4000000 in
set_option maxRecDepth 100000 in
theorem c_L_start (l : Launch) (htl : l.stackTraces = false) (dC : Nat → ClassId) (dI : Nat → Nat → Nat) (Z : Nat → ClassId) (A : Nat → Nat) (sz : Nat) (M : XM) : Met l y_L_start (.codeWith y_L_start bc_L_start 2 (some .int) [(0, 4, 7, 15)] :: xw) ({ frames := 7, cells := 1, slots := 6, locals := 110 }) (va_Pc [.ref (A 0)] (xBs (dC, dI) xcl (xty Z) sz [(A 0, xc0 Z A M), (A 17, xc17 Z A M), (A 6, xc6 Z A M), (A 12, xc12 Z A M), (A 19, xc19 Z A M)])) (va_Qi (fun (r : Int32) (N : XM) => (r, N) = G_L_start M) (fun N => xE (dC, dI) xcl (xty Z) (va_A [(A 0, xc0 Z A M), (A 17, xc17 Z A M), (A 6, xc6 Z A M), (A 12, xc12 Z A M), (A 19, xc19 Z A M)] sz) [(A 0, xc0 Z A N), (A 17, xc17 Z A N), (A 6, xc6 Z A N), (A 12, xc12 Z A N), (A 19, xc19 Z A N)]) (va_A [(A 0, xc0 Z A M), (A 17, xc17 Z A M), (A 6, xc6 Z A M), (A 12, xc12 Z A M), (A 19, xc19 Z A M)] sz)) 1 6 (va_A [(A 0, xc0 Z A M), (A 17, xc17 Z A M), (A 6, xc6 Z A M), (A 12, xc12 Z A M), (A 19, xc19 Z A M)] sz) := by
  refine va_MetW (cc := bc_L_start) (maxL := 2) (ret := (some .int)) (hh := [(0, 4, 7, 15)]) (by decide) rfl ?_
  intro p e s m args below meth c s₁ B hml hv
  obtain ⟨rfl, ⟨hsz, hP, hK, hD0, hq⟩, hs⟩ := hv
  have hx := B.exec
  have hb := B.bytes
  have hr := B.returns
  have hts := atoms_spec (ws := (.codeWith y_L_start bc_L_start 2 (some .int) [(0, 4, 7, 15)] :: xw)) B.pre
  have htt : ∀ w ∈ xw, w.before _ s = true := fun w h => hts w (List.mem_cons_of_mem _ h)
  have hown : s.vm.findClass "CentrifugeUnitLaw" = some m.cls := findClass_of_methodNamed B.named
  have hlocks := B.notSynchronized
  have htab := xh_list (xh_table B (hts _ List.mem_cons_self))
  subst hsz
  have hD := hD0.self (sz := s.heap.size)
  generalize hAe : va_A [(A 0, xc0 Z A M), (A 17, xc17 Z A M), (A 6, xc6 Z A M), (A 12, xc12 Z A M), (A 19, xc19 Z A M)] s.heap.size = AA at hD ⊢
  have hA : ∀ q : Nat, s.heap.size ≤ q → AA q := fun q h => by rw [← hAe]; exact Or.inr h
  have hS : va_S AA s.heap s.heap [] := va_S.rf
  have hP : va_P (dC, dI) xcl [(A 0, .inr (9, [.ref (A 1), .ref (A 6), .ref (A 10), .ref (A 11), .ref (A 12), .ref (A 13), .ref (A 17)])), (A 17, .inr (0, [.ref (A 1), .ref (A 6), .ref (A 11), .ref (A 12), .ref (A 13), .ref (A 18), .ref (A 19), .int (M.1 12), .int (M.1 13), .int (M.1 14), .int (M.1 15), .int (M.1 16), .int (M.1 17), .int (M.1 18)])), (A 6, .inr (3, [.ref (A 7), .ref (A 8), .ref (A 9), .int (M.1 1)])), (A 12, .inr (1, [.int (M.1 8), .int (M.1 9), .int (M.1 10)])), (A 19, .inr (6, [.long (M.2.1 1), .long (M.2.1 2), .int (M.1 23), .int (M.1 24), .int (M.1 25), .int (M.1 26), .int (M.1 27), .int (M.1 28)]))] s.heap := hP
  have hD : va_D AA [(A 0, .inr (9, [.ref (A 1), .ref (A 6), .ref (A 10), .ref (A 11), .ref (A 12), .ref (A 13), .ref (A 17)])), (A 17, .inr (0, [.ref (A 1), .ref (A 6), .ref (A 11), .ref (A 12), .ref (A 13), .ref (A 18), .ref (A 19), .int (M.1 12), .int (M.1 13), .int (M.1 14), .int (M.1 15), .int (M.1 16), .int (M.1 17), .int (M.1 18)])), (A 6, .inr (3, [.ref (A 7), .ref (A 8), .ref (A 9), .int (M.1 1)])), (A 12, .inr (1, [.int (M.1 8), .int (M.1 9), .int (M.1 10)])), (A 19, .inr (6, [.long (M.2.1 1), .long (M.2.1 2), .int (M.1 23), .int (M.1 24), .int (M.1 25), .int (M.1 26), .int (M.1 27), .int (M.1 28)]))] := hD
  have hl := lv_entry ([.ref (A 0)]) (n := 2) (Nat.le_of_ble_eq_true rfl)
  rw [lg_entry_eq]
  generalize (lg_sl ([.ref (A 0)]) ++ List.replicate (2 - (lg_sl ([.ref (A 0)])).length) Slot.unset).toArray = ls at hl ⊢
  have hl : lv_has ls 2 [(0, .ref (A 0))] := hl
  have hPc := hP.sub (ws' := [(A 0, xc0 Z A M), (A 17, xc17 Z A M), (A 6, xc6 Z A M), (A 12, xc12 Z A M), (A 19, xc19 Z A M)]) [0, 1, 2, 3, 4] rfl
  have hDc := hD.sub (ws' := [(A 0, xc0 Z A M), (A 17, xc17 Z A M), (A 6, xc6 Z A M), (A 12, xc12 Z A M), (A 19, xc19 Z A M)]) [0, 1, 2, 3, 4] (by decide) rfl
  refine lv_aload_n hx hb d_L_start_0 rfl (lv_at hl 0 rfl) ?_
  rcases tc_L_start M with hT | hT
  · have hG : G_L_start M = (0, (ap_U_start M (F_U_start M))) := by rw [G_L_start, if_pos hT]
    refine xk_v (wc := [(A 0, xc0 Z A M), (A 17, xc17 Z A M), (A 6, xc6 Z A M), (A 12, xc12 Z A M), (A 19, xc19 Z A M)]) (wr := []) (va_runV (As := []) (rest := []) ⟨hx, hb, hml, hown, hts⟩ (c_U_start l dC dI Z A _ M hT) (cwV 0 hts (xw_V _ tw_481 tw_482 tw_483 tw_1 tw_484) rfl rfl rfl (by decide +kernel) ⟨Nat.le_of_ble_eq_true rfl, Nat.le_of_ble_eq_true rfl⟩) ⟨xB_blind, va_recv (q0 := 0) (ci := 9) hK hP rfl rfl, fun U hU hW => ⟨rfl, xB_at hPc hK hDc hq U hU hW⟩⟩ rfl rfl hl.1 rfl (lv_room (Nat.le_of_ble_eq_true rfl)) d_L_start_1 ⟨Nat.le_of_ble_eq_true rfl, Nat.le_of_ble_eq_true rfl⟩) hP hD hS hA [0, 1, 2, 3, 4] [] rfl rfl (by decide) (by decide) (fun u H locs hu hP hD hS => ?_)
    subst hu
    have hP : va_P (dC, dI) xcl [(A 0, xc0 Z A (ap_U_start M (F_U_start M))), (A 17, xc17 Z A (ap_U_start M (F_U_start M))), (A 6, xc6 Z A (ap_U_start M (F_U_start M))), (A 12, xc12 Z A (ap_U_start M (F_U_start M))), (A 19, xc19 Z A (ap_U_start M (F_U_start M)))] H := hP
    have hD : va_D AA [(A 0, xc0 Z A (ap_U_start M (F_U_start M))), (A 17, xc17 Z A (ap_U_start M (F_U_start M))), (A 6, xc6 Z A (ap_U_start M (F_U_start M))), (A 12, xc12 Z A (ap_U_start M (F_U_start M))), (A 19, xc19 Z A (ap_U_start M (F_U_start M)))] := hD
    refine lv_goto (tgt := 10) hx hb d_L_start_4 rfl ?_
    refine lv_iconst (v := 0) hx hb d_L_start_10 (by decide) ?_
    have hP9 := hP.sub (ws' := [(A 0, xc0 Z A (ap_U_start M (F_U_start M))), (A 17, xc17 Z A (ap_U_start M (F_U_start M))), (A 6, xc6 Z A (ap_U_start M (F_U_start M))), (A 12, xc12 Z A (ap_U_start M (F_U_start M))), (A 19, xc19 Z A (ap_U_start M (F_U_start M)))]) [0, 1, 2, 3, 4] rfl
    have hD9 := hD.sub (ws' := [(A 0, xc0 Z A (ap_U_start M (F_U_start M))), (A 17, xc17 Z A (ap_U_start M (F_U_start M))), (A 6, xc6 Z A (ap_U_start M (F_U_start M))), (A 12, xc12 Z A (ap_U_start M (F_U_start M))), (A 19, xc19 Z A (ap_U_start M (F_U_start M)))]) [0, 1, 2, 3, 4] (by decide) rfl
    refine W.widen (k := 1) (n := 6) (by decide) (by decide) ?_
    exact W.iret hx hb hr (fun t ht hW => ⟨⟨0, (ap_U_start M (F_U_start M)), rfl, hG.symm, xE_at hP9 hK hD9 ht hW⟩, hS.F ht⟩) hS.2.2 d_L_start_11
  · have hG : G_L_start M = (1, M) := by rw [G_L_start, if_neg (by rw [hT]; decide)]
    refine xt_catchV (hpc := 7) (As := []) (rest := []) ⟨hx, hb, hml, hown, hts⟩ (t2_U_start l dC dI Z A _ M htl hT) (cwV 0 hts (xw_V _ tw_481 tw_482 tw_483 tw_1 tw_484) rfl rfl rfl (by decide +kernel) ⟨Nat.le_of_ble_eq_true rfl, Nat.le_of_ble_eq_true rfl⟩) ⟨xBs_blind, va_recv (q0 := 0) (ci := 9) hK hP rfl rfl, fun U hU hW => ⟨rfl, xBs_at hPc hK hDc hq hs U hU hW⟩⟩ rfl hl.1 rfl (Nat.le_of_ble_eq_true rfl) d_L_start_1 ⟨Nat.le_of_ble_eq_true rfl, Nat.le_of_ble_eq_true rfl⟩ (fun pl hpl th hth => by
        rw [htab]
        exact xr_hit hpl hown (by decide) (by decide) (htt (.classLink "CentrifugeUnitLaw" 15 "java/lang/IllegalStateException") tw_337) (hq.2.2 (.castable "java/lang/IllegalStateException" "java/lang/IllegalStateException") (by decide +kernel)) hth rfl) (fun xa H1 hz ho => ?_)
    refine lv_astore_n (lv' := [(1, .ref xa), (0, .ref (A 0))]) hx hb d_L_start_7 rfl hl (by decide) rfl (fun ls hl => ?_)
    refine lv_iconst (v := 1) hx hb d_L_start_8 (by decide) ?_
    have hP9 : va_P (dC, dI) xcl [(A 0, xc0 Z A M), (A 17, xc17 Z A M), (A 6, xc6 Z A M), (A 12, xc12 Z A M), (A 19, xc19 Z A M)] H1 := xP_kept hP ho
    have hS := xS_kept hS hz ho
    exact W.iret hx hb hr (fun t ht hW => ⟨⟨1, M, rfl, hG.symm, xE_at hP9 hK hD ht hW⟩, hS.F ht⟩) hS.2.2 d_L_start_9
