-- ===== PART A: goes FIRST, ahead of the names: the tables' words, and 'selects' of the private methods out of them =====
/-- a private method of a class that the tables say can be made, by its rows of tables_1 -/
def lw_okq (q : MethodName × Nat) : Prop := (q.1.cls ≠ "java/lang/invoke/MethodHandle" ∧ q.1.cls ≠ "java/lang/invoke/VarHandle") ∧ Cond.instantiable q.1.cls q.2 ∈ tables_1 ∧ Cond.privateMethod q.1 ∈ tables_1 ∧ Cond.instanceMethod q.1 ∈ tables_1
theorem lw_p0 : lw_okq (⟨"java/lang/Throwable", "fillInStackTrace", "(I)Ljava/lang/Throwable;"⟩, 6) := ⟨⟨by decide +kernel, by decide +kernel⟩, List.mem_of_getElem? (i := 392) (by decide +kernel), List.mem_of_getElem? (i := 390) (by decide +kernel), List.mem_of_getElem? (i := 391) (by decide +kernel)⟩
theorem lw_p1 : lw_okq (⟨"CentrifugeUnit$Control", "readSensors", "(LCentrifugeUnit$Model;)V"⟩, 14) := ⟨⟨by decide +kernel, by decide +kernel⟩, List.mem_of_getElem? (i := 163) (by decide +kernel), List.mem_of_getElem? (i := 586) (by decide +kernel), List.mem_of_getElem? (i := 587) (by decide +kernel)⟩
theorem lw_p2 : lw_okq (⟨"CentrifugeUnit$Control", "turning", "()Z"⟩, 14) := ⟨⟨by decide +kernel, by decide +kernel⟩, List.mem_of_getElem? (i := 163) (by decide +kernel), List.mem_of_getElem? (i := 621) (by decide +kernel), List.mem_of_getElem? (i := 622) (by decide +kernel)⟩
theorem lw_p3 : lw_okq (⟨"CentrifugeUnit$Control", "lookForFault", "()V"⟩, 14) := ⟨⟨by decide +kernel, by decide +kernel⟩, List.mem_of_getElem? (i := 163) (by decide +kernel), List.mem_of_getElem? (i := 636) (by decide +kernel), List.mem_of_getElem? (i := 637) (by decide +kernel)⟩
theorem lw_p4 : lw_okq (⟨"CentrifugeUnit$Control", "faultReason", "()I"⟩, 14) := ⟨⟨by decide +kernel, by decide +kernel⟩, List.mem_of_getElem? (i := 163) (by decide +kernel), List.mem_of_getElem? (i := 640) (by decide +kernel), List.mem_of_getElem? (i := 641) (by decide +kernel)⟩
theorem lw_p5 : lw_okq (⟨"CentrifugeUnit$Control", "addDose", "()V"⟩, 14) := ⟨⟨by decide +kernel, by decide +kernel⟩, List.mem_of_getElem? (i := 163) (by decide +kernel), List.mem_of_getElem? (i := 657) (by decide +kernel), List.mem_of_getElem? (i := 658) (by decide +kernel)⟩
theorem lw_p6 : lw_okq (⟨"CentrifugeUnit$Control", "followProgram", "()V"⟩, 14) := ⟨⟨by decide +kernel, by decide +kernel⟩, List.mem_of_getElem? (i := 163) (by decide +kernel), List.mem_of_getElem? (i := 662) (by decide +kernel), List.mem_of_getElem? (i := 663) (by decide +kernel)⟩
theorem lw_p7 : lw_okq (⟨"CentrifugeUnit$Control", "segmentIsThrough", "(I)Z"⟩, 14) := ⟨⟨by decide +kernel, by decide +kernel⟩, List.mem_of_getElem? (i := 163) (by decide +kernel), List.mem_of_getElem? (i := 670) (by decide +kernel), List.mem_of_getElem? (i := 671) (by decide +kernel)⟩
theorem lw_p8 : lw_okq (⟨"CentrifugeUnit$Control", "ramp", "(II)Z"⟩, 14) := ⟨⟨by decide +kernel, by decide +kernel⟩, List.mem_of_getElem? (i := 163) (by decide +kernel), List.mem_of_getElem? (i := 674) (by decide +kernel), List.mem_of_getElem? (i := 675) (by decide +kernel)⟩
theorem lw_p9 : lw_okq (⟨"CentrifugeUnit$Control", "keepToGoal", "()V"⟩, 14) := ⟨⟨by decide +kernel, by decide +kernel⟩, List.mem_of_getElem? (i := 163) (by decide +kernel), List.mem_of_getElem? (i := 684) (by decide +kernel), List.mem_of_getElem? (i := 685) (by decide +kernel)⟩
theorem lw_p10 : lw_okq (⟨"CentrifugeUnit$Control", "slowDown", "(II)Z"⟩, 14) := ⟨⟨by decide +kernel, by decide +kernel⟩, List.mem_of_getElem? (i := 163) (by decide +kernel), List.mem_of_getElem? (i := 692) (by decide +kernel), List.mem_of_getElem? (i := 693) (by decide +kernel)⟩
theorem lw_p11 : lw_okq (⟨"CentrifugeUnit$Control", "comeToRest", "()V"⟩, 14) := ⟨⟨by decide +kernel, by decide +kernel⟩, List.mem_of_getElem? (i := 163) (by decide +kernel), List.mem_of_getElem? (i := 702) (by decide +kernel), List.mem_of_getElem? (i := 703) (by decide +kernel)⟩
theorem lw_p12 : lw_okq (⟨"CentrifugeUnitModel", "throwing", "(ZZ)Z"⟩, 45) := ⟨⟨by decide +kernel, by decide +kernel⟩, List.mem_of_getElem? (i := 774) (by decide +kernel), List.mem_of_getElem? (i := 935) (by decide +kernel), List.mem_of_getElem? (i := 936) (by decide +kernel)⟩
theorem lw_p13 : lw_okq (⟨"CentrifugeUnitModel", "isLocked", "()Z"⟩, 45) := ⟨⟨by decide +kernel, by decide +kernel⟩, List.mem_of_getElem? (i := 774) (by decide +kernel), List.mem_of_getElem? (i := 961) (by decide +kernel), List.mem_of_getElem? (i := 962) (by decide +kernel)⟩
theorem lw_p14 : lw_okq (⟨"CentrifugeUnitModel", "atRest", "()Z"⟩, 45) := ⟨⟨by decide +kernel, by decide +kernel⟩, List.mem_of_getElem? (i := 774) (by decide +kernel), List.mem_of_getElem? (i := 973) (by decide +kernel), List.mem_of_getElem? (i := 974) (by decide +kernel)⟩
theorem lw_p15 : lw_okq (⟨"CentrifugeUnitModel", "control", "()V"⟩, 45) := ⟨⟨by decide +kernel, by decide +kernel⟩, List.mem_of_getElem? (i := 774) (by decide +kernel), List.mem_of_getElem? (i := 1004) (by decide +kernel), List.mem_of_getElem? (i := 1005) (by decide +kernel)⟩
def lw_privs_1 : List (MethodName × Nat) := [(⟨"java/lang/Throwable", "fillInStackTrace", "(I)Ljava/lang/Throwable;"⟩, 6), (⟨"CentrifugeUnit$Control", "readSensors", "(LCentrifugeUnit$Model;)V"⟩, 14), (⟨"CentrifugeUnit$Control", "turning", "()Z"⟩, 14), (⟨"CentrifugeUnit$Control", "lookForFault", "()V"⟩, 14), (⟨"CentrifugeUnit$Control", "faultReason", "()I"⟩, 14), (⟨"CentrifugeUnit$Control", "addDose", "()V"⟩, 14), (⟨"CentrifugeUnit$Control", "followProgram", "()V"⟩, 14), (⟨"CentrifugeUnit$Control", "segmentIsThrough", "(I)Z"⟩, 14), (⟨"CentrifugeUnit$Control", "ramp", "(II)Z"⟩, 14), (⟨"CentrifugeUnit$Control", "keepToGoal", "()V"⟩, 14), (⟨"CentrifugeUnit$Control", "slowDown", "(II)Z"⟩, 14), (⟨"CentrifugeUnit$Control", "comeToRest", "()V"⟩, 14), (⟨"CentrifugeUnitModel", "throwing", "(ZZ)Z"⟩, 45), (⟨"CentrifugeUnitModel", "isLocked", "()Z"⟩, 45), (⟨"CentrifugeUnitModel", "atRest", "()Z"⟩, 45), (⟨"CentrifugeUnitModel", "control", "()V"⟩, 45)]
theorem lw_r1 : ∀ q ∈ lw_privs_1, lw_okq q := List.forall_mem_cons.mpr ⟨lw_p0, List.forall_mem_cons.mpr ⟨lw_p1, List.forall_mem_cons.mpr ⟨lw_p2, List.forall_mem_cons.mpr ⟨lw_p3, List.forall_mem_cons.mpr ⟨lw_p4, List.forall_mem_cons.mpr ⟨lw_p5, List.forall_mem_cons.mpr ⟨lw_p6, List.forall_mem_cons.mpr ⟨lw_p7, List.forall_mem_cons.mpr ⟨lw_p8, List.forall_mem_cons.mpr ⟨lw_p9, List.forall_mem_cons.mpr ⟨lw_p10, List.forall_mem_cons.mpr ⟨lw_p11, List.forall_mem_cons.mpr ⟨lw_p12, List.forall_mem_cons.mpr ⟨lw_p13, List.forall_mem_cons.mpr ⟨lw_p14, List.forall_mem_cons.mpr ⟨lw_p15, fun _ h => absurd h List.not_mem_nil⟩⟩⟩⟩⟩⟩⟩⟩⟩⟩⟩⟩⟩⟩⟩⟩
theorem lw_p16 : lw_okq (⟨"CentrifugeUnitModel", "sense", "()V"⟩, 45) := ⟨⟨by decide +kernel, by decide +kernel⟩, List.mem_of_getElem? (i := 774) (by decide +kernel), List.mem_of_getElem? (i := 1008) (by decide +kernel), List.mem_of_getElem? (i := 1009) (by decide +kernel)⟩
theorem lw_p17 : lw_okq (⟨"CentrifugeUnitModel", "read", "(I)V"⟩, 45) := ⟨⟨by decide +kernel, by decide +kernel⟩, List.mem_of_getElem? (i := 774) (by decide +kernel), List.mem_of_getElem? (i := 1018) (by decide +kernel), List.mem_of_getElem? (i := 1019) (by decide +kernel)⟩
theorem lw_p18 : lw_okq (⟨"CentrifugeUnitModel", "watch", "()V"⟩, 45) := ⟨⟨by decide +kernel, by decide +kernel⟩, List.mem_of_getElem? (i := 774) (by decide +kernel), List.mem_of_getElem? (i := 1022) (by decide +kernel), List.mem_of_getElem? (i := 1023) (by decide +kernel)⟩
theorem lw_p19 : lw_okq (⟨"CentrifugeUnitModel", "work", "()Z"⟩, 45) := ⟨⟨by decide +kernel, by decide +kernel⟩, List.mem_of_getElem? (i := 774) (by decide +kernel), List.mem_of_getElem? (i := 1027) (by decide +kernel), List.mem_of_getElem? (i := 1028) (by decide +kernel)⟩
theorem lw_p20 : lw_okq (⟨"CentrifugeUnitModel", "steer", "()V"⟩, 45) := ⟨⟨by decide +kernel, by decide +kernel⟩, List.mem_of_getElem? (i := 774) (by decide +kernel), List.mem_of_getElem? (i := 1031) (by decide +kernel), List.mem_of_getElem? (i := 1032) (by decide +kernel)⟩
theorem lw_p21 : lw_okq (⟨"CentrifugeUnitModel", "finish", "()V"⟩, 45) := ⟨⟨by decide +kernel, by decide +kernel⟩, List.mem_of_getElem? (i := 774) (by decide +kernel), List.mem_of_getElem? (i := 1038) (by decide +kernel), List.mem_of_getElem? (i := 1039) (by decide +kernel)⟩
theorem lw_p22 : lw_okq (⟨"CentrifugeUnitModel", "move", "()V"⟩, 45) := ⟨⟨by decide +kernel, by decide +kernel⟩, List.mem_of_getElem? (i := 774) (by decide +kernel), List.mem_of_getElem? (i := 1042) (by decide +kernel), List.mem_of_getElem? (i := 1043) (by decide +kernel)⟩
def lw_privs_2 : List (MethodName × Nat) := [(⟨"CentrifugeUnitModel", "sense", "()V"⟩, 45), (⟨"CentrifugeUnitModel", "read", "(I)V"⟩, 45), (⟨"CentrifugeUnitModel", "watch", "()V"⟩, 45), (⟨"CentrifugeUnitModel", "work", "()Z"⟩, 45), (⟨"CentrifugeUnitModel", "steer", "()V"⟩, 45), (⟨"CentrifugeUnitModel", "finish", "()V"⟩, 45), (⟨"CentrifugeUnitModel", "move", "()V"⟩, 45)]
theorem lw_r2 : ∀ q ∈ lw_privs_2, lw_okq q := List.forall_mem_cons.mpr ⟨lw_p16, List.forall_mem_cons.mpr ⟨lw_p17, List.forall_mem_cons.mpr ⟨lw_p18, List.forall_mem_cons.mpr ⟨lw_p19, List.forall_mem_cons.mpr ⟨lw_p20, List.forall_mem_cons.mpr ⟨lw_p21, List.forall_mem_cons.mpr ⟨lw_p22, fun _ h => absurd h List.not_mem_nil⟩⟩⟩⟩⟩⟩⟩
def lw_privs : List (MethodName × Nat) := lw_privs_1 ++ (lw_privs_2)
def lw_tbl : List Cond := k2_sels lw_privs ++ tables_1
theorem lw_privs_ok : ∀ q ∈ lw_privs, lw_okq q := by
  show ∀ q ∈ lw_privs_1 ++ (lw_privs_2), lw_okq q
  exact List.forall_mem_append.mpr ⟨lw_r1, lw_r2⟩
/-! my own: the words that a call keeps (xw), and those that want a law of their own (xq) -/
def xw : List Cond := lw_tbl.filter goodWord
theorem xw_of {w : Cond} (h : w ∈ lw_tbl) (g : goodWord w = true) : w ∈ xw := List.mem_filter.mpr ⟨h, g⟩
theorem xw_good {w : Cond} (h : w ∈ xw) : (w.onTables && w.keeps) = true ∨ ∃ ty, w = .arrayClass ty := good_of_word (List.mem_filter.mp h).2
theorem xw_call (c0 : Cond) {c1 : Cond} (h : c1 ∈ xw) : GoodIn (c0 :: xw) (c1 :: xw) := fun w hw => by
  rcases List.mem_cons.mp hw with rfl | hw
  · exact ⟨List.mem_cons_of_mem _ h, xw_good h⟩
  · exact ⟨List.mem_cons_of_mem _ hw, xw_good hw⟩
theorem xw_app (c0 : Cond) {a b : List Cond} (ha : ∀ w ∈ a, w ∈ xw) (hb : GoodIn (c0 :: xw) b) : GoodIn (c0 :: xw) (a ++ b) := fun w hw => by
  rcases List.mem_append.mp hw with hw | hw
  · exact ⟨List.mem_cons_of_mem _ (ha w hw), xw_good (ha w hw)⟩
  · exact hb w hw
def xIAE : String := "java/lang/IllegalArgumentException"
def xISE : String := "java/lang/IllegalStateException"
def xIOB : String := "java/lang/IndexOutOfBoundsException"
/-- words on the tables that are no 'good' ones: links to private members of the nest -/
def xn_nest : List (String × Nat × MethodName × String) := [("CentrifugeUnit", 18, ⟨"CentrifugeUnit$Program", "<init>", "()V"⟩, "CentrifugeUnit"), ("CentrifugeUnit", 25, ⟨"CentrifugeUnit$Model", "<init>", "()V"⟩, "CentrifugeUnit"), ("CentrifugeUnit", 32, ⟨"CentrifugeUnit$Sensors", "<init>", "()V"⟩, "CentrifugeUnit"), ("CentrifugeUnit", 39, ⟨"CentrifugeUnit$Lid", "<init>", "()V"⟩, "CentrifugeUnit"), ("CentrifugeUnit", 46, ⟨"CentrifugeUnit$Records", "<init>", "()V"⟩, "CentrifugeUnit"), ("CentrifugeUnit$Control", 11, ⟨"CentrifugeUnit$Watch", "<init>", "()V"⟩, "CentrifugeUnit"), ("CentrifugeUnit$Control", 20, ⟨"CentrifugeUnit$Run", "<init>", "()V"⟩, "CentrifugeUnit"), ("CentrifugeUnit$Rotors", 34, ⟨"CentrifugeUnit", "within", "(III)Z"⟩, "CentrifugeUnit"), ("CentrifugeUnit$Program", 19, ⟨"CentrifugeUnit", "within", "(III)Z"⟩, "CentrifugeUnit")]
def xn_str : List (String × Nat × String) := [("CentrifugeUnit", 70, "no such rotor, or its pattern is taken"), ("CentrifugeUnit", 81, "a rotor is told when idle, with power"), ("CentrifugeUnit", 91, "no such rotor"), ("CentrifugeUnit", 100, "no such segment"), ("CentrifugeUnit", 106, "not idle, no power, or the program is full"), ("CentrifugeUnit", 118, "not idle, no power, no program, or not locked"), ("CentrifugeUnit", 123, "not running, or no power"), ("CentrifugeUnit", 138, "not idle, no power, or not at rest"), ("CentrifugeUnit", 154, "no such level"), ("CentrifugeUnit", 159, "no such temperature"), ("CentrifugeUnit", 165, "no such sensor or number"), ("CentrifugeUnit", 176, "it is so"), ("CentrifugeUnit", 184, "not 1 to 2,000 ticks"), ("CentrifugeUnit", 233, "nothing to look at"), ("CentrifugeUnit", 253, "nothing of a record"), ("CentrifugeUnit", 263, "no record that is kept")]
def xn_cast : List Cond := [.castable "java/lang/IllegalArgumentException" "java/lang/IllegalArgumentException", .declares ⟨"java/lang/RuntimeException", "<init>", "()V"⟩, .declares ⟨"java/lang/RuntimeException", "<init>", "(Ljava/lang/String;)V"⟩, .declares ⟨"java/lang/Exception", "<init>", "()V"⟩, .declares ⟨"java/lang/Exception", "<init>", "(Ljava/lang/String;)V"⟩, .declares ⟨"java/lang/Throwable", "<init>", "()V"⟩, .declares ⟨"java/lang/Throwable", "<init>", "(Ljava/lang/String;)V"⟩, .castable "java/lang/IllegalStateException" "java/lang/IllegalStateException", .castable "java/lang/IndexOutOfBoundsException" "java/lang/IndexOutOfBoundsException", .not (.castable "java/lang/IllegalStateException" "java/lang/IllegalArgumentException"), .not (.castable "java/lang/IndexOutOfBoundsException" "java/lang/IllegalArgumentException")]
def xq (U : State) : Prop := (∀ q ∈ xn_nest, (Cond.methodLinkNest q.1 q.2.1 q.2.2.1 q.2.2.2).before #[] U = true) ∧ (∀ q ∈ xn_str, ∃ a, vk_R q.1 q.2.1 q.2.2 a U) ∧ (∀ w ∈ xn_cast, w.before #[] U = true)
theorem xc_keeps : xn_cast.all Cond.keepsCast = true := by decide +kernel
theorem xc_vm {U U' : State} (h : U.vm = U'.vm) : ∀ w ∈ xn_cast, w.before #[] U = w.before #[] U' := by
  intro w hw
  simp only [xn_cast, List.mem_cons, List.not_mem_nil, or_false] at hw
  rcases hw with rfl | rfl | rfl | rfl | rfl | rfl | rfl | rfl | rfl | rfl | rfl <;> simp only [Cond.before, Cond.holds, Cond.value, State.fieldNamed?, State.fieldFound?, State.methodNamed?, State.methodFound?, h]
theorem xq_warm {s U : State} (hW : s.WarmedH U.vm) (h : xq s) : xq U := by
  refine ⟨fun q hq => va_Nw.warmM hW (h.1 q hq), fun q hq => ?_, fun w hw => ?_⟩
  · obtain ⟨a, ha⟩ := h.2.1 q hq
    exact ⟨a, vk_R.warm hW ha⟩
  · have h1 := Cond.before_shiftedCast (State.Shifted.of_warmed hW) w (List.all_eq_true.mp xc_keeps w hw) (h.2.2 w hw)
    rw [xc_vm (U := s.setVm U.vm) (U' := U) rfl w hw] at h1
    exact h1
theorem xq_same {u U : State} (hv : U.vm = u.vm) (h : xq u) : xq U := xq_warm (s := u) (by rw [hv]; exact State.WarmedH.refl u) h
/-- Throwable's two statics: words on the heap, of a cell that was there at the start -/
def xn_stat : List Cond := [.laysStatic "java/lang/Throwable" "UNASSIGNED_STACK" "[Ljava/lang/StackTraceElement;", .laysStatic "java/lang/Throwable" "SUPPRESSED_SENTINEL" "Ljava/util/List;", .isRef (.static "java/lang/Throwable" "UNASSIGNED_STACK" "[Ljava/lang/StackTraceElement;"), .isRef (.static "java/lang/Throwable" "SUPPRESSED_SENTINEL" "Ljava/util/List;")]
def xs (U : State) : Prop := ∀ w ∈ xn_stat, w.before #[] U = true
theorem xs_keeps : xn_stat.all Cond.keepsCast = true := by decide +kernel
theorem xs_lay {a n d : String} {V U : State} (hv : V.vm = U.vm) (hh : ∀ q : Nat, q < V.heap.size → U.heap[q]? = V.heap[q]?) (h : (Cond.laysStatic a n d).before #[] V = true) : (Cond.laysStatic a n d).before #[] U = true := by
  simp only [Cond.before, Cond.holds, Cond.value, State.fieldFound?, hv] at h ⊢
  revert h
  split
  · rename_i c c' k i f _ _
    intro h
    cases hk : k.statics with
    | none => simp [hk] at h
    | some x =>
      cases hc : V.heap[x]? with
      | none => simp [hk, hc] at h
      | some cell =>
        have e := hh x (Array.getElem?_eq_some_iff.mp hc).1
        simp only [hk, hc, e, Option.bind_some] at h ⊢
        exact h
  · intro h; exact h
theorem xs_ref {a n d : String} {V U : State} (hv : V.vm = U.vm) (hh : ∀ q : Nat, q < V.heap.size → U.heap[q]? = V.heap[q]?) (h : (Cond.isRef (.static a n d)).before #[] V = true) : (Cond.isRef (.static a n d)).before #[] U = true := by
  have e : ∀ v, (Term.static a n d).eval #[] V none [] V = some v → (Term.static a n d).eval #[] U none [] U = some v := by
    intro v hev
    have en : U.fieldNamed? a n d true = V.fieldNamed? a n d true := by simp only [State.fieldNamed?, State.fieldFound?, hv]
    simp only [Term.eval] at hev ⊢
    rw [en]
    cases hf : V.fieldNamed? a n d true with
    | none => simp [hf] at hev
    | some r =>
      obtain ⟨r1, k, slot⟩ := r
      cases hk : k.statics with
      | none => simp [hf, hk] at hev
      | some x =>
        cases hc : V.heap[x]? with
        | none => simp [hf, hk, hc] at hev
        | some cell =>
          have e := hh x (Array.getElem?_eq_some_iff.mp hc).1
          simp only [hf, hk, hc, e, Option.bind_eq_bind, Option.bind_some] at hev ⊢
          exact hev
  simp only [Cond.before, Cond.holds, Cond.value] at h ⊢
  cases hx : (Term.static a n d).eval #[] V none [] V with
  | none => simp [hx] at h
  | some v => rw [e v hx]; rw [hx] at h; exact h
theorem xs_kept {s U : State} (hW : s.WarmedH U.vm) (hh : ∀ q : Nat, q < s.heap.size → U.heap[q]? = s.heap[q]?) (h : xs s) : xs U := by
  intro w hw
  have h1 := Cond.before_shiftedCast (State.Shifted.of_warmed hW) w (List.all_eq_true.mp xs_keeps w hw) (h w hw)
  simp only [xn_stat, List.mem_cons, List.not_mem_nil, or_false] at hw
  rcases hw with rfl | rfl | rfl | rfl
  · exact xs_lay (V := s.setVm U.vm) rfl hh h1
  · exact xs_lay (V := s.setVm U.vm) rfl hh h1
  · exact xs_ref (V := s.setVm U.vm) rfl hh h1
  · exact xs_ref (V := s.setVm U.vm) rfl hh h1
