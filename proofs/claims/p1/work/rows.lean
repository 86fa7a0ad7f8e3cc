section
-- ===== PART A: goes FIRST, ahead of the names: the tables' words, and 'selects' of the private methods out of them =====
/-- a private method of a class that the tables say can be made, by its rows of tables_1 -/
def lw_okq (q : MethodName × Nat) : Prop := (q.1.cls ≠ "java/lang/invoke/MethodHandle" ∧ q.1.cls ≠ "java/lang/invoke/VarHandle") ∧ Cond.instantiable q.1.cls q.2 ∈ tables_1 ∧ Cond.privateMethod q.1 ∈ tables_1 ∧ Cond.instanceMethod q.1 ∈ tables_1
theorem lw_p0 : lw_okq (⟨"java/lang/Throwable", "fillInStackTrace", "(I)Ljava/lang/Throwable;"⟩, 6) := ⟨⟨by decide +kernel, by decide +kernel⟩, List.mem_of_getElem? (i := 392) (by decide +kernel), List.mem_of_getElem? (i := 390) (by decide +kernel), List.mem_of_getElem? (i := 391) (by decide +kernel)⟩
theorem lw_p1 : lw_okq (⟨"CentrifugeUnit$Control", "readSensors", "(LCentrifugeUnit$Model;)V"⟩, 14) := ⟨⟨by decide +kernel, by decide +kernel⟩, List.mem_of_getElem? (i := 163) (by decide +kernel), List.mem_of_getElem? (i := 586) (by decide +kernel), List.mem_of_getElem? (i := 587) (by decide +kernel)⟩
theorem lw_p2 : lw_okq (⟨"CentrifugeUnit$Control", "turning", "()Z"⟩, 14) := ⟨⟨by decide +kernel, by decide +kernel⟩, List.mem_of_getElem? (i := 163) (by decide +kernel), List.mem_of_getElem? (i := 621) (by decide +kernel), List.mem_of_getElem? (i := 622) (by decide +kernel)⟩
theorem lw_p3 : lw_okq (⟨"CentrifugeUnit$Control", "lookForFault", "()V"⟩, 14) := ⟨⟨by decide +kernel, by decide +kernel⟩, List.mem_of_getElem? (i := 163) (by decide +kernel), List.mem_of_getElem? (i := 636) (by decide +kernel), List.mem_of_getElem? (i := 637) (by decide +kernel)⟩
theorem lw_p4 : lw_okq (⟨"CentrifugeUnit$Control", "faultReason", "()I"⟩, 14) := ⟨⟨by decide +kernel, by decide +kernel⟩, List.mem_of_getElem? (i := 163) (by decide +kernel), List.mem_of_getElem? (i := 640) (by decide +kernel), List.mem_of_getElem? (i := 641) (by decide +kernel)⟩
theorem lw_p5 : lw_okq (⟨"CentrifugeUnit$Control", "addDose", "()V"⟩, 14) := ⟨⟨by decide +kernel, by decide +kernel⟩, List.mem_of_getElem? (i := 163) (by decide +kernel), List.mem_of_getElem? (i := 657) (by decide +kernel), List.mem_of_getElem? (i := 658) (by decide +kernel)⟩
theorem lw_p6 : lw_okq (⟨"CentrifugeUnit$Control", "followProgram", "()V"⟩, 14) := ⟨⟨by decide +kernel, by decide +kernel⟩, List.mem_of_getElem? (i := 163) (by decide +kernel), List.mem_of_getElem? (i := 662) (by decide +kernel), List.mem_of_getElem? (i := 663) (by decide +kernel)⟩
theorem lw_p7 : lw_okq (⟨"CentrifugeUnit$Control", "segmentIsThrough", "(I)Z"⟩, 14) := ⟨⟨by decide +kernel, by decide +kernel⟩, List.mem_of_getElem? (i := 163) (by decide +kernel), List.mem_of_getElem? (i := 670) (by decide +kernel), List.mem_of_getElem? (i := 671) (by decide +kernel)⟩
theorem lw_p8 : lw_okq (⟨"CentrifugeUnit$Control", "ramp", "(II)Z"⟩, 14) := ⟨⟨by decide +kernel, by decide +kernel⟩, List.mem_of_getElem? (i := 163) (by decide +kernel), List.mem_of_getElem? (i := 674) (by decide +kernel), List.mem_of_getElem? (i := 675) (by decide +kernel)⟩
theorem lw_p9 : lw_okq (⟨"CentrifugeUnit$Control", "keepToGoal", "()V"⟩, 14) := ⟨⟨by decide +kernel, by decide +kernel⟩, List.mem_of_getElem? (i := 163) (by decide +kernel), List.mem_of_getElem? (i := 684) (by decide +kernel), List.mem_of_getElem? (i := 685) (by decide +kernel)⟩
theorem lw_p10 : lw_okq (⟨"CentrifugeUnit$Control", "slowDown", "(II)Z"⟩, 14) := ⟨⟨by decide +kernel, by decide +kernel⟩, List.mem_of_getElem? (i := 163) (by decide +kernel), List.mem_of_getElem? (i := 692) (by decide +kernel), List.mem_of_getElem? (i := 693) (by decide +kernel)⟩
theorem lw_p11 : lw_okq (⟨"CentrifugeUnit$Control", "comeToRest", "()V"⟩, 14) := ⟨⟨by decide +kernel, by decide +kernel⟩, List.mem_of_getElem? (i := 163) (by decide +kernel), List.mem_of_getElem? (i := 702) (by decide +kernel), List.mem_of_getElem? (i := 703) (by decide +kernel)⟩
theorem lw_p12 : lw_okq (⟨"CentrifugeUnitModel", "throwing", "(ZZ)Z"⟩, 45) := ⟨⟨by decide +kernel, by decide +kernel⟩, List.mem_of_getElem? (i := 774) (by decide +kernel), List.mem_of_getElem? (i := 935) (by decide +kernel), List.mem_of_getElem? (i := 936) (by decide +kernel)⟩
theorem lw_p13 : lw_okq (⟨"CentrifugeUnitModel", "isLocked", "()Z"⟩, 45) := ⟨⟨by decide +kernel, by decide +kernel⟩, List.mem_of_getElem? (i := 774) (by decide +kernel), List.mem_of_getElem? (i := 961) (by decide +kernel), List.mem_of_getElem? (i := 962) (by decide +kernel)⟩
theorem lw_p14 : lw_okq (⟨"CentrifugeUnitModel", "atRest", "()Z"⟩, 45) := ⟨⟨by decide +kernel, by decide +kernel⟩, List.mem_of_getElem? (i := 774) (by decide +kernel), List.mem_of_getElem? (i := 973) (by decide +kernel), List.mem_of_getElem? (i := 974) (by decide +kernel)⟩
theorem lw_p15 : lw_okq (⟨"CentrifugeUnitModel", "control", "()V"⟩, 45) := ⟨⟨by decide +kernel, by decide +kernel⟩, List.mem_of_getElem? (i := 774) (by decide +kernel), List.mem_of_getElem? (i := 1004) (by decide +kernel), List.mem_of_getElem? (i := 1005) (by decide +kernel)⟩
def lw_privs_1 : List (MethodName × Nat) := [(⟨"java/lang/Throwable", "fillInStackTrace", "(I)Ljava/lang/Throwable;"⟩, 6), (⟨"CentrifugeUnit$Control", "readSensors", "(LCentrifugeUnit$Model;)V"⟩, 14), (⟨"CentrifugeUnit$Control", "turning", "()Z"⟩, 14), (⟨"CentrifugeUnit$Control", "lookForFault", "()V"⟩, 14), (⟨"CentrifugeUnit$Control", "faultReason", "()I"⟩, 14), (⟨"CentrifugeUnit$Control", "addDose", "()V"⟩, 14), (⟨"CentrifugeUnit$Control", "followProgram", "()V"⟩, 14), (⟨"CentrifugeUnit$Control", "segmentIsThrough", "(I)Z"⟩, 14), (⟨"CentrifugeUnit$Control", "ramp", "(II)Z"⟩, 14), (⟨"CentrifugeUnit$Control", "keepToGoal", "()V"⟩, 14), (⟨"CentrifugeUnit$Control", "slowDown", "(II)Z"⟩, 14), (⟨"CentrifugeUnit$Control", "comeToRest", "()V"⟩, 14), (⟨"CentrifugeUnitModel", "throwing", "(ZZ)Z"⟩, 45), (⟨"CentrifugeUnitModel", "isLocked", "()Z"⟩, 45), (⟨"CentrifugeUnitModel", "atRest", "()Z"⟩, 45), (⟨"CentrifugeUnitModel", "control", "()V"⟩, 45)]
theorem lw_r1 : ∀ q ∈ lw_privs_1, lw_okq q := List.forall_mem_cons.mpr ⟨lw_p0, List.forall_mem_cons.mpr ⟨lw_p1, List.forall_mem_cons.mpr ⟨lw_p2, List.forall_mem_cons.mpr ⟨lw_p3, List.forall_mem_cons.mpr ⟨lw_p4, List.forall_mem_cons.mpr ⟨lw_p5, List.forall_mem_cons.mpr ⟨lw_p6, List.forall_mem_cons.mpr ⟨lw_p7, List.forall_mem_cons.mpr ⟨lw_p8, List.forall_mem_cons.mpr ⟨lw_p9, List.forall_mem_cons.mpr ⟨lw_p10, List.forall_mem_cons.mpr ⟨lw_p11, List.forall_mem_cons.mpr ⟨lw_p12, List.forall_mem_cons.mpr ⟨lw_p13, List.forall_mem_cons.mpr ⟨lw_p14, List.forall_mem_cons.mpr ⟨lw_p15, fun _ h => absurd h List.not_mem_nil⟩⟩⟩⟩⟩⟩⟩⟩⟩⟩⟩⟩⟩⟩⟩⟩
theorem lw_p16 : lw_okq (⟨"CentrifugeUnitModel", "sense", "()V"⟩, 45) := ⟨⟨by decide +kernel, by decide +kernel⟩, List.mem_of_getElem? (i := 774) (by decide +kernel), List.mem_of_getElem? (i := 1008) (by decide +kernel), List.mem_of_getElem? (i := 1009) (by decide +kernel)⟩
theorem lw_p17 : lw_okq (⟨"CentrifugeUnitModel", "read", "(I)V"⟩, 45) := ⟨⟨by decide +kernel, by decide +kernel⟩, List.mem_of_getElem? (i := 774) (by decide +kernel), List.mem_of_getElem? (i := 1018) (by decide +kernel), List.mem_of_getElem? (i := 1019) (by decide +kernel)⟩
theorem lw_p18 : lw_okq (⟨"CentrifugeUnitModel", "watch", "()V"⟩, 45) := ⟨⟨by decide +kernel, by decide +kernel⟩, List.mem_of_getElem? (i := 774) (by decide +kernel), List.mem_of_getElem? (i := 1022) (by decide +kernel), List.mem_of_getElem? (i := 1023) (by decide +kernel)⟩
theorem lw_p19 : lw_okq (⟨"CentrifugeUnitModel", "work", "()Z"⟩, 45) := ⟨⟨by decide +kernel, by decide +kernel⟩, List.mem_of_getElem? (i := 774) (by decide +kernel), List.mem_of_getElem? (i := 1027) (by decide +kernel), List.mem_of_getElem? (i := 1028) (by decide +kernel)⟩
theorem lw_p20 : lw_okq (⟨"CentrifugeUnitModel", "steer", "()V"⟩, 45) := ⟨⟨by decide +kernel, by decide +kernel⟩, List.mem_of_getElem? (i := 774) (by decide +kernel), List.mem_of_getElem? (i := 1031) (by decide +kernel), List.mem_of_getElem? (i := 1032) (by decide +kernel)⟩
theorem lw_p21 : lw_okq (⟨"CentrifugeUnitModel", "finish", "()V"⟩, 45) := ⟨⟨by decide +kernel, by decide +kernel⟩, List.mem_of_getElem? (i := 774) (by decide +kernel), List.mem_of_getElem? (i := 1038) (by decide +kernel), List.mem_of_getElem? (i := 1039) (by decide +kernel)⟩
theorem lw_p22 : lw_okq (⟨"CentrifugeUnitModel", "move", "()V"⟩, 45) := ⟨⟨by decide +kernel, by decide +kernel⟩, List.mem_of_getElem? (i := 774) (by decide +kernel), List.mem_of_getElem? (i := 1042) (by decide +kernel), List.mem_of_getElem? (i := 1043) (by decide +kernel)⟩
def lw_privs_2 : List (MethodName × Nat) := [(⟨"CentrifugeUnitModel", "sense", "()V"⟩, 45), (⟨"CentrifugeUnitModel", "read", "(I)V"⟩, 45), (⟨"CentrifugeUnitModel", "watch", "()V"⟩, 45), (⟨"CentrifugeUnitModel", "work", "()Z"⟩, 45), (⟨"CentrifugeUnitModel", "steer", "()V"⟩, 45), (⟨"CentrifugeUnitModel", "finish", "()V"⟩, 45), (⟨"CentrifugeUnitModel", "move", "()V"⟩, 45)]
theorem lw_r2 : ∀ q ∈ lw_privs_2, lw_okq q := List.forall_mem_cons.mpr ⟨lw_p16, List.forall_mem_cons.mpr ⟨lw_p17, List.forall_mem_cons.mpr ⟨lw_p18, List.forall_mem_cons.mpr ⟨lw_p19, List.forall_mem_cons.mpr ⟨lw_p20, List.forall_mem_cons.mpr ⟨lw_p21, List.forall_mem_cons.mpr ⟨lw_p22, fun _ h => absurd h List.not_mem_nil⟩⟩⟩⟩⟩⟩⟩
def lw_privs : List (MethodName × Nat) := lw_privs_1 ++ (lw_privs_2)
def lw_tbl : List Cond := k2_sels lw_privs ++ tables_1
theorem lw_privs_ok : ∀ q ∈ lw_privs, lw_okq q := by
  show ∀ q ∈ lw_privs_1 ++ (lw_privs_2), lw_okq q
  exact List.forall_mem_append.mpr ⟨lw_r1, lw_r2⟩
/-! my own: the words that a call keeps (xw), and those that want a law of their own (xq) -/
def xw : List Cond := lw_tbl.filter goodWord
theorem xw_of {w : Cond} (h : w ∈ lw_tbl) (g : goodWord w = true) : w ∈ xw := List.mem_filter.mpr ⟨h, g⟩
theorem xw_good {w : Cond} (h : w ∈ xw) : (w.onTables && w.keeps) = true ∨ ∃ ty, w = .arrayClass ty := good_of_word (List.mem_filter.mp h).2
theorem xw_call (c0 : Cond) {c1 : Cond} (h : c1 ∈ xw) : GoodIn (c0 :: xw) (c1 :: xw) := fun w hw => by
  rcases List.mem_cons.mp hw with rfl | hw
  · exact ⟨List.mem_cons_of_mem _ h, xw_good h⟩
  · exact ⟨List.mem_cons_of_mem _ hw, xw_good hw⟩
theorem xw_app (c0 : Cond) {a b : List Cond} (ha : ∀ w ∈ a, w ∈ xw) (hb : GoodIn (c0 :: xw) b) : GoodIn (c0 :: xw) (a ++ b) := fun w hw => by
  rcases List.mem_append.mp hw with hw | hw
  · exact ⟨List.mem_cons_of_mem _ (ha w hw), xw_good (ha w hw)⟩
  · exact hb w hw
def xIAE : String := "java/lang/IllegalArgumentException"
def xISE : String := "java/lang/IllegalStateException"
def xIOB : String := "java/lang/IndexOutOfBoundsException"
/-- words on the tables that are no 'good' ones: links to private members of the nest -/
def xn_nest : List (String × Nat × MethodName × String) := [("CentrifugeUnit", 18, ⟨"CentrifugeUnit$Program", "<init>", "()V"⟩, "CentrifugeUnit"), ("CentrifugeUnit", 25, ⟨"CentrifugeUnit$Model", "<init>", "()V"⟩, "CentrifugeUnit"), ("CentrifugeUnit", 32, ⟨"CentrifugeUnit$Sensors", "<init>", "()V"⟩, "CentrifugeUnit"), ("CentrifugeUnit", 39, ⟨"CentrifugeUnit$Lid", "<init>", "()V"⟩, "CentrifugeUnit"), ("CentrifugeUnit", 46, ⟨"CentrifugeUnit$Records", "<init>", "()V"⟩, "CentrifugeUnit"), ("CentrifugeUnit$Control", 11, ⟨"CentrifugeUnit$Watch", "<init>", "()V"⟩, "CentrifugeUnit"), ("CentrifugeUnit$Control", 20, ⟨"CentrifugeUnit$Run", "<init>", "()V"⟩, "CentrifugeUnit"), ("CentrifugeUnit$Rotors", 34, ⟨"CentrifugeUnit", "within", "(III)Z"⟩, "CentrifugeUnit"), ("CentrifugeUnit$Program", 19, ⟨"CentrifugeUnit", "within", "(III)Z"⟩, "CentrifugeUnit")]
def xn_str : List (String × Nat × String) := [("CentrifugeUnit", 70, "no such rotor, or its pattern is taken"), ("CentrifugeUnit", 81, "a rotor is told when idle, with power"), ("CentrifugeUnit", 91, "no such rotor"), ("CentrifugeUnit", 100, "no such segment"), ("CentrifugeUnit", 106, "not idle, no power, or the program is full"), ("CentrifugeUnit", 118, "not idle, no power, no program, or not locked"), ("CentrifugeUnit", 123, "not running, or no power"), ("CentrifugeUnit", 138, "not idle, no power, or not at rest"), ("CentrifugeUnit", 154, "no such level"), ("CentrifugeUnit", 159, "no such temperature"), ("CentrifugeUnit", 165, "no such sensor or number"), ("CentrifugeUnit", 176, "it is so"), ("CentrifugeUnit", 184, "not 1 to 2,000 ticks"), ("CentrifugeUnit", 233, "nothing to look at"), ("CentrifugeUnit", 253, "nothing of a record"), ("CentrifugeUnit", 263, "no record that is kept")]
def xn_cast : List Cond := [.castable "java/lang/IllegalArgumentException" "java/lang/IllegalArgumentException", .declares ⟨"java/lang/RuntimeException", "<init>", "()V"⟩, .declares ⟨"java/lang/RuntimeException", "<init>", "(Ljava/lang/String;)V"⟩, .declares ⟨"java/lang/Exception", "<init>", "()V"⟩, .declares ⟨"java/lang/Exception", "<init>", "(Ljava/lang/String;)V"⟩, .declares ⟨"java/lang/Throwable", "<init>", "()V"⟩, .declares ⟨"java/lang/Throwable", "<init>", "(Ljava/lang/String;)V"⟩, .castable "java/lang/IllegalStateException" "java/lang/IllegalStateException", .castable "java/lang/IndexOutOfBoundsException" "java/lang/IndexOutOfBoundsException", .not (.castable "java/lang/IllegalStateException" "java/lang/IllegalArgumentException"), .not (.castable "java/lang/IndexOutOfBoundsException" "java/lang/IllegalArgumentException")]
def xq (U : State) : Prop := (∀ q ∈ xn_nest, (Cond.methodLinkNest q.1 q.2.1 q.2.2.1 q.2.2.2).before #[] U = true) ∧ (∀ q ∈ xn_str, ∃ a, vk_R q.1 q.2.1 q.2.2 a U) ∧ (∀ w ∈ xn_cast, w.before #[] U = true)
theorem xc_keeps : xn_cast.all Cond.keepsCast = true := by decide +kernel
theorem xc_vm {U U' : State} (h : U.vm = U'.vm) : ∀ w ∈ xn_cast, w.before #[] U = w.before #[] U' := by
  intro w hw
  simp only [xn_cast, List.mem_cons, List.not_mem_nil, or_false] at hw
  rcases hw with rfl | rfl | rfl | rfl | rfl | rfl | rfl | rfl | rfl | rfl | rfl <;> simp only [Cond.before, Cond.holds, Cond.value, State.fieldNamed?, State.fieldFound?, State.methodNamed?, State.methodFound?, h]
theorem xq_warm {s U : State} (hW : s.WarmedH U.vm) (h : xq s) : xq U := by
  refine ⟨fun q hq => va_Nw.warmM hW (h.1 q hq), fun q hq => ?_, fun w hw => ?_⟩
  · obtain ⟨a, ha⟩ := h.2.1 q hq
    exact ⟨a, vk_R.warm hW ha⟩
  · have h1 := Cond.before_shiftedCast (State.Shifted.of_warmed hW) w (List.all_eq_true.mp xc_keeps w hw) (h.2.2 w hw)
    rw [xc_vm (U := s.setVm U.vm) (U' := U) rfl w hw] at h1
    exact h1
theorem xq_same {u U : State} (hv : U.vm = u.vm) (h : xq u) : xq U := xq_warm (s := u) (by rw [hv]; exact State.WarmedH.refl u) h
/-- Throwable's two statics: words on the heap, of a cell that was there at the start -/
def xn_stat : List Cond := [.laysStatic "java/lang/Throwable" "UNASSIGNED_STACK" "[Ljava/lang/StackTraceElement;", .laysStatic "java/lang/Throwable" "SUPPRESSED_SENTINEL" "Ljava/util/List;", .isRef (.static "java/lang/Throwable" "UNASSIGNED_STACK" "[Ljava/lang/StackTraceElement;"), .isRef (.static "java/lang/Throwable" "SUPPRESSED_SENTINEL" "Ljava/util/List;")]
def xs (U : State) : Prop := ∀ w ∈ xn_stat, w.before #[] U = true
theorem xs_keeps : xn_stat.all Cond.keepsCast = true := by decide +kernel
theorem xs_lay {a n d : String} {V U : State} (hv : V.vm = U.vm) (hh : ∀ q : Nat, q < V.heap.size → U.heap[q]? = V.heap[q]?) (h : (Cond.laysStatic a n d).before #[] V = true) : (Cond.laysStatic a n d).before #[] U = true := by
  simp only [Cond.before, Cond.holds, Cond.value, State.fieldFound?, hv] at h ⊢
  revert h
  split
  · rename_i c c' k i f _ _
    intro h
    cases hk : k.statics with
    | none => simp [hk] at h
    | some x =>
      cases hc : V.heap[x]? with
      | none => simp [hk, hc] at h
      | some cell =>
        have e := hh x (Array.getElem?_eq_some_iff.mp hc).1
        simp only [hk, hc, e, Option.bind_some] at h ⊢
        exact h
  · intro h; exact h
theorem xs_ref {a n d : String} {V U : State} (hv : V.vm = U.vm) (hh : ∀ q : Nat, q < V.heap.size → U.heap[q]? = V.heap[q]?) (h : (Cond.isRef (.static a n d)).before #[] V = true) : (Cond.isRef (.static a n d)).before #[] U = true := by
  have e : ∀ v, (Term.static a n d).eval #[] V none [] V = some v → (Term.static a n d).eval #[] U none [] U = some v := by
    intro v hev
    have en : U.fieldNamed? a n d true = V.fieldNamed? a n d true := by simp only [State.fieldNamed?, State.fieldFound?, hv]
    simp only [Term.eval] at hev ⊢
    rw [en]
    cases hf : V.fieldNamed? a n d true with
    | none => simp [hf] at hev
    | some r =>
      obtain ⟨r1, k, slot⟩ := r
      cases hk : k.statics with
      | none => simp [hf, hk] at hev
      | some x =>
        cases hc : V.heap[x]? with
        | none => simp [hf, hk, hc] at hev
        | some cell =>
          have e := hh x (Array.getElem?_eq_some_iff.mp hc).1
          simp only [hf, hk, hc, e, Option.bind_eq_bind, Option.bind_some] at hev ⊢
          exact hev
  simp only [Cond.before, Cond.holds, Cond.value] at h ⊢
  cases hx : (Term.static a n d).eval #[] V none [] V with
  | none => simp [hx] at h
  | some v => rw [e v hx]; rw [hx] at h; exact h
theorem xs_kept {s U : State} (hW : s.WarmedH U.vm) (hh : ∀ q : Nat, q < s.heap.size → U.heap[q]? = s.heap[q]?) (h : xs s) : xs U := by
  intro w hw
  have h1 := Cond.before_shiftedCast (State.Shifted.of_warmed hW) w (List.all_eq_true.mp xs_keeps w hw) (h w hw)
  simp only [xn_stat, List.mem_cons, List.not_mem_nil, or_false] at hw
  rcases hw with rfl | rfl | rfl | rfl
  · exact xs_lay (V := s.setVm U.vm) rfl hh h1
  · exact xs_lay (V := s.setVm U.vm) rfl hh h1
  · exact xs_ref (V := s.setVm U.vm) rfl hh h1
  · exact xs_ref (V := s.setVm U.vm) rfl hh h1
end
section
/-! Rows of my own: a method that throws a new exception (a launch without stack traces), and a caller whose table catches it. -/
def xt_Q (X : String) (st : State) (o : Outcome) (t : State) : Prop :=
  ∃ (a : Nat) (ce : Cell), o = .threw a ∧ t.heap[a]? = some ce ∧ st.vm.findClass X = some ce.cls ∧ ce.vm.isStatics = false
def xt_E (X : String) (mc ms : Nat) (st : State) (o : Outcome) (t : State) : Prop :=
  xt_Q X st o t ∧ st.WarmedH t.vm ∧ st.sameButNew ({ t with vm := st.vm } : State) [] mc ms
/-- the contract of a method that throws a new X, and changes nothing that was there -/
def MetT (l : Launch) (y : MethodName) (ws : List Cond) (rm : Room) (Pc : Array Value → State → Prop) (X : String) (mc ms : Nat) : Prop :=
  MetFree l y (headSpec ws rm) Pc (fun _ _ _ _ _ => True) (fun _ st o t => xt_E X mc ms st o t)
def xt_Z (below : List Frame) (X : String) (s : State) (mc ms : Nat) : State → Prop := fun t =>
  ∃ o, t.status = .running ∧ Ended t below o ∧ xt_E X mc ms s o t
theorem xt_old {s t : State} {k n : Nat} (h : s.sameButNew ({ t with vm := s.vm } : State) [] k n) :
    s.heap.size ≤ t.heap.size ∧ ∀ q : Nat, q < s.heap.size → t.heap[q]? = s.heap[q]? := by
  refine ⟨h.2.1, fun q hq => ?_⟩
  have hc : s.heap[q]? = some s.heap[q] := Array.getElem?_eq_getElem hq
  obtain ⟨c', h1, h2, h3, h4⟩ := h.2.2.2.2.2 q _ hc
  have h1 : t.heap[q]? = some c' := h1
  have e : c'.slots = (s.heap[q]).slots := Array.ext_getElem? (fun i => h4 i (by simp))
  rw [h1, hc, h2, e]
theorem MetT.ofW {l : Launch} {y : MethodName} {ws ws' : List Cond} {rm : Room} {Pc : Array Value → State → Prop} {X : String} {mc ms : Nat} {cc : ByteArray} {maxL : Nat} {ret : Option FieldType}
    (hy : plainName y.cls = true) (hw : ws = Cond.code y cc maxL ret :: ws')
    (body : ∀ p e s m args below meth c s₁, BodyLoose p l y (headSpec ws rm) cc maxL ret e s m args below meth c s₁ → c.maxLocals = maxL → Pc args s →
      W p l e (headSpec ws rm).room s m args below meth c s.heap [] 0 0 (xt_Z below X s mc ms) (entryFrame m args maxL)) : MetT l y ws rm Pc X mc ms := by
  refine MetFree.of_bodyS (code := cc) (maxLocals := maxL) (ret := ret) hy ?_ ?_
  · intro args s m h hn
    obtain ⟨meth, c, h1, h2, h3, h4, h5, h6, -, -⟩ := Cond.code_spec hn (atoms_spec (ws := ws) h _ (by rw [hw]; exact List.mem_cons_self))
    exact ⟨meth, c, h1, h2, h3, h4, h5, h6⟩
  · intro p e s m args below meth c s₁ B hml hP _
    have hh0 : s₁.heap = s.heap := by rw [B.state]; rfl
    obtain ⟨t, a1, o, b1, b2, b3⟩ := body p e s m args below meth c s₁ B hml hP s₁ hh0 (Stand.of_body B)
    exact ⟨t, o, a1, b1, b2, b3⟩
section XT
variable {p : Program} {l : Launch} {e : Env} {R : Room} {s : State} {m : MethodId} {args : Array Value} {below : List Frame} {meth : Method} {c : Code} {H : Heap} {locs : List Loc} {cells slots : Nat} {Q : State → Prop}
/-- new X(text), thrown, in a method without handlers, nothing old written so far -/
theorem xt_throw {cc : ByteArray} (hexec : p.tables.exec = Jvm.exec) (hb : c.code = cc) (htl : l.stackTraces = false) {own X tx : String} {names : List String} {i0 i1 i2 q : Nat}
    (hown : s.vm.findClass own = some m.cls) (hcl : (Cond.classLink own i0 X).before args s = true) (hins : (Cond.instantiable X 6).before args s = true) (hini : (Cond.initialized X).before args s = true)
    (hZ : vk_R own i1 tx q s) (hw : ∀ a ∈ Bundle.ownAtoms own i2 X names, a.before args s = true) (hfit : Bundle.fit X = true) (hnames : ∀ n ∈ names, Bundle.fit n = true)
    {pc : Nat} {ls : Array Slot} (d0 : decode cc pc = .ok (.new i0, 3)) (d3 : decode cc (pc + 3) = .ok (.dup, 1)) (d4 : decode cc (pc + 4) = .ok (.ldc i1, 2)) (d6 : decode cc (pc + 6) = .ok (.invokespecial i2, 3)) (d9 : decode cc (pc + 9) = .ok (.athrow, 1))
    (hout : c.exceptionTable.isEmpty = true) (hsz : ls.size = c.maxLocals) (hlocks : meth.locks = false) (hRf : names.length + 3 < R.frames) (hRl : 1 + (13 * (names.length + 1) + 42) ≤ R.locals) (hRc : 1 ≤ R.cells) (hRs : 6 ≤ R.slots) :
    W p l e R s m args below meth c s.heap [] 0 0 (xt_Z below X s 1 6) (F0 m pc ls []) := by
  refine W.newc hexec hb hown hcl hins hini rfl d0 (by simpa using hRc) (by simpa using hRs) fun cX kX h1 h2 h3 h4 => ?_
  refine lv_dup hexec hb d3 rfl ?_
  refine va_ldcS hexec hb hown hZ d4 ?_
  intro T hT V
  have htr : e.platform.stackTraces = false := by rw [V.admits.platform]; exact htl
  have hno : ∀ x ∈ c.exceptionTable.toList, covers x (pc + 6 + 3) = false := by
    have h0 : c.exceptionTable.size = 0 := by simpa [Array.isEmpty] using hout
    have h1 : c.exceptionTable.toList = [] := List.eq_nil_of_length_eq_zero (by simpa using h0)
    intro x hx
    rw [h1] at hx
    cases hx
  obtain ⟨U, u1, u2, u3, u4, u5, ce, u6, u7⟩ := V.ctorThrowS hexec htr hown hfit hnames hw (by intro x hx; cases hx) (a := s.heap.size) (cX := cX) (kX := kX) h1 h2
    (by rw [hT]; simp [freshCell]) (Nat.le_refl _) (msg := .ref q) rfl
    (g := F0 m (pc + 6) ls [.ref q, .ref s.heap.size, .ref s.heap.size]) rfl hsz rfl rfl (rest := []) rfl (by rw [hb]; exact d6) (by rw [hb]; exact d9) hno hRf (by simpa [Value.category] using hRl) hlocks
  exact ⟨U, u1, .threw s.heap.size, u2, u3, ⟨s.heap.size, ce, rfl, u6, u7.cls, by rw [u7.vm]; rfl⟩, u4, by simpa using u5⟩
end XT
/-- a method's table, at a pc, for an object of a class: which handler takes it -/
def xt_row (pl : Platform) (s₀ : State) (d : ClassId) (pc : Nat) (th : ClassId) : List ExceptionTableEntry → Nat → Prop
  | [], _ => False
  | x :: t, h => (covers x pc = false ∧ xt_row pl s₀ d pc th t h) ∨ (covers x pc = true ∧ x.catchType ≠ 0 ∧ ∃ cT : ClassId, s₀.vm.ClassLinks pl d x.catchType cT ∧
      ((s₀.vm.assignable th cT = true ∧ h = x.handlerPc) ∨ (s₀.vm.assignable th cT = false ∧ xt_row pl s₀ d pc th t h)))
theorem xt_step {Q : Handler → Pre} {E : CtlPost} {e : Env} {d : Bool} {acts : List Action} {s : State} {f : JFrame} {a : Addr} {x : ExceptionTableEntry} {t : List ExceptionTableEntry} {cT : ClassId} {cell : Cell} (hx : covers x f.pc = true) (h0 : x.catchType ≠ 0)
    (hl : s.vm.ClassLinks e.platform f.method.cls x.catchType cT) (hcell : s.heap[a]? = some cell) (hobj : ∀ k, cell.vm ≠ .statics k)
    (hk : ∃ k, s.vm.classes[cell.cls]? = some k) (hc : ∃ k, s.vm.classes[cT]? = some k) (y : Bool) (hy : s.vm.assignable cell.cls cT = y) :
    wp (findHandler.go f a (x :: t)) Q E e d acts s ↔ (if y = true then Q (.found x.handlerPc) d acts (s.setVm (s.vm.noted f.method.cls x.catchType (.cls cT))) else wp (findHandler.go f a t) Q E e d acts (s.setVm (s.vm.noted f.method.cls x.catchType (.cls cT)))) := by
  simp only [covers] at hx
  obtain ⟨w1, w2⟩ := (resolveClass_links e.toSetting hl).op (op := VmOp.resolveClass f.method.cls x.catchType) rfl
  have hal : s.vm.Alike (s.vm.noted f.method.cls x.catchType (.cls cT)) := (Vm.Alike.refl s.vm).noted _ _ _
  obtain ⟨k1, hk1⟩ := hk
  obtain ⟨k2, hk2⟩ := hc
  obtain ⟨k3, hk3, -⟩ := hal.2.2 _ _ hk1
  obtain ⟨k4, hk4, -⟩ := hal.2.2 _ _ hk2
  have hy' : (s.vm.noted f.method.cls x.catchType (.cls cT)).assignable cell.cls cT = y := by rw [hal.assignable]; exact hy
  cases y <;> simp [findHandler.go, hx, h0, w1, w2, hcell, hobj, hk3, hk4, hy', VmOp.dirties, VmOp.acts]
theorem xt_goes {e : Env} {s₀ : State} {f : JFrame} {a : Addr} {cell : Cell} (hobj : ∀ k, cell.vm ≠ .statics k) (hk0 : ∃ k, s₀.vm.classes[cell.cls]? = some k) :
    ∀ (t : List ExceptionTableEntry) (h : Nat) (S : State), s₀.WarmedH S.vm → S.heap[a]? = some cell → xt_row e.platform s₀ f.method.cls f.pc cell.cls t h →
      ∃ vm', s₀.WarmedH vm' ∧ ∀ (Q : Handler → Pre) (E : CtlPost) (d : Bool) (acts : List Action), wp (findHandler.go f a t) Q E e d acts S ↔ Q (.found h) d acts (S.setVm vm') := by
  obtain ⟨k0, hk0⟩ := hk0
  intro t
  induction t with
  | nil => intro h S _ _ hr; exact hr.elim
  | cons x t ih =>
    intro h S hW hcell hr
    rcases hr with ⟨h1, h2⟩ | ⟨h1, h2, cT, hl, h3⟩
    · obtain ⟨vm', w1, w2⟩ := ih h S hW hcell h2
      exact ⟨vm', w1, fun Q E d acts => by rw [W.findHandler_go_skip h1]; exact w2 Q E d acts⟩
    · obtain ⟨dk, _, _, kt, hd, _, _, _, _, hkt, _, hopen⟩ := hl.here
      obtain ⟨k0', hk0', -⟩ := hW.alike.2.2 _ _ hk0
      obtain ⟨kt', hkt', -⟩ := hW.alike.2.2 _ _ hkt
      have hN := hW.noted hd hopen (State.rightAt_cls hl)
      rcases h3 with ⟨h3, rfl⟩ | ⟨h3, h4⟩
      · exact ⟨_, hN, fun Q E d acts => by
          rw [xt_step h1 h2 (hW.classLinks hl) hcell hobj ⟨k0', hk0'⟩ ⟨kt', hkt'⟩ true (by rw [hW.alike.assignable]; exact h3), if_pos rfl]⟩
      · obtain ⟨vm', w1, w2⟩ := ih h (S.setVm (S.vm.noted f.method.cls x.catchType (.cls cT))) hN hcell h4
        exact ⟨vm', w1, fun Q E d acts => by
          rw [xt_step h1 h2 (hW.classLinks hl) hcell hobj ⟨k0', hk0'⟩ ⟨kt', hkt'⟩ false (by rw [hW.alike.assignable]; exact h3), if_neg (by decide)]
          exact w2 Q E d acts⟩
/-- one step of the unwinding: into the handler -/
theorem xt_caught {tb : Tables} {e : Env} {s target : State} {g : JFrame} {c : Code} {below : List Frame} {a : Addr} (h : At s g.method c below) {pc : Nat} {vm' : Vm}
    (hf : ∀ (Q : Handler → Pre) (E : CtlPost) (d : Bool) (acts : List Action), wp (findHandler g a) Q E e d acts ((s.setTop g).pushFrame (.throwing a)) ↔ Q (.found pc) d acts (((s.setTop g).pushFrame (.throwing a)).setVm vm'))
    (hrest : Steps tb e below ((s.setVm vm').setTop { g with pc := pc, stack := [.ref a] }) target) :
    Steps tb e below ((s.setTop g).pushFrame (.throwing a)) target := by
  obtain ⟨hgo, hw⟩ := h.throwing a
  refine Steps.head hgo hw ?_
  rw [stepThread_throwing (frames_entered h.top _)]
  have hst : ∀ r, (stepThrowing e ((s.setTop g).pushFrame (.throwing a)) a (.java g :: r)).Is ((((s.setTop g).pushFrame (.throwing a)).setVm vm').setFrames (.java { g with pc := pc, stack := [.ref a] } :: r)) [] := by
    intro r
    simp only [stepThrowing, searchFrame, vmDo]
    generalize hr : Sem.go _ e false [] ((s.setTop g).pushFrame (.throwing a)) = res
    obtain ⟨as, rfl, ha⟩ := Sem.eq_ok_of hr (a := Handler.found pc) (s' := ((s.setTop g).pushFrame (.throwing a)).setVm vm') (acts' := []) (by simp [hf _ _ _ _])
    exact ⟨rfl, ha⟩
  rw [(hst _).1]
  obtain ⟨g₀, hg⟩ := Option.isSome_iff_exists.mp h.top
  obtain ⟨r, hr⟩ := State.topJava?_eq_some.mp hg
  have hr' : (s.setVm vm').frames = .java g₀ :: r := hr
  have two : ∀ (u : State) (F G : List Frame), ((u.setFrames F).setVm vm').setFrames G = (u.setVm vm').setFrames G := fun u F G => by
    have h1 : (u.setFrames F).setVm vm' = (u.setVm vm').setFrames F := rfl
    rw [h1, State.setFrames_setFrames]
  rw [State.setTop_of_frames _ hr'] at hrest
  rw [hr, List.tail_cons, State.pushFrame, two, State.setTop_of_frames _ hr, two]
  exact hrest
section XC
variable {p : Program} {l : Launch} {e : Env} {R : Room} {s : State} {m : MethodId} {args : Array Value} {below : List Frame} {meth : Method} {c : Code} {H : Heap} {locs : List Loc} {cells slots : Nat} {Q : State → Prop}
variable {y : MethodName} {bytes cc : ByteArray} {maxL nL mc ms n index : Nat} {ret : Option FieldType} {ws : List Cond} {rm : Room} {Pc : Array Value → State → Prop} {Ts : List Cond} {own C X : String} {b : Addr} {As rest : List Value}
/-- invokevirtual of a method that throws, caught by the caller's own table -/
theorem xt_catchV (S : CallFix p m c cc nL s args Ts own) (hM : MetT l y ws rm Pc X mc ms) (cw : CallW R s args own C index y bytes maxL ret ws rm mc ms n) (hp : PreV s H C b Pc As)
    (hn : As.length = n) {pc : Nat} {ls : Array Slot} {st0 : List Value} (hsize : ls.size = nL) (hstack : st0 = As.reverse ++ .ref b :: rest) (hW : (rest.map fun v => v.category).sum ≤ 8) (hdg : decode cc pc = .ok (.invokevirtual index, 3)) (hf : cells + mc ≤ R.cells ∧ slots + ms ≤ R.slots) {hpc : Nat}
    (htab : ∀ pl : Platform, pl.magicAccessors = ({} : Platform).magicAccessors → ∀ th : ClassId, s.vm.findClass X = some th → xt_row pl s m.cls pc th c.exceptionTable.toList hpc)
    (kk : ∀ (a : Nat) (H1 : Heap), H.size ≤ H1.size → (∀ q : Nat, q < H.size → H1[q]? = H[q]?) → W p l e R s m args below meth c H1 locs (cells + mc) (slots + ms) Q (F0 m hpc ls [.ref a])) :
    W p l e R s m args below meth c H locs cells slots Q (F0 m pc ls st0) := by
  obtain ⟨⟨hrc, hrs, hfr, hlo, hws, hcw, hcode, hini, hy, hlen, hl⟩, hin, hse⟩ := cw
  obtain ⟨hx, hb, hml, ho, -⟩ := S
  obtain ⟨hblind, ⟨cellB, hcB, hoB, hclB⟩, hPc⟩ := hp
  intro T hT V
  obtain ⟨mk, methM, hnamed, hmethM, hstM, habM⟩ := Cond.instanceMethod_spec hin
  obtain ⟨methM', cM, hmethM', hcM, -, hlM, -, -, -, hsigM⟩ := Cond.code_spec hnamed hcode
  cases hmethM.symm.trans hmethM'
  obtain ⟨c2, r2, m2, q1, q2, q3, q4, kP, hkP, hkPi⟩ := Cond.selects_spec hse
  cases hclB.symm.trans q1
  cases (State.methodFound?_of_named hnamed hy).symm.trans q2
  cases hnamed.symm.trans q3
  have hselP : selectMethod e.platform s.vm cellB.cls mk = .method mk := by rw [Launch.admits_selectMethod V.admits]; exact q4
  obtain ⟨vm₁, V₁, hstep₁⟩ := V.invokevirtual hx ho hl hnamed hmethM hstM hkP hkPi hy (a := b) (cell := cellB) (by rw [hT]; exact hcB)
    (fun z h => by rw [h] at hoB; cases hoB) hselP hmethM habM hkP hkPi (g := F0 m pc ls st0) rfl (argsL := As) (rest := rest) (hn.trans (hlen _ hsigM)) hstack (by rw [hb]; exact hdg)
  have hinitP : kP.init = .initialized := Cond.initialized_spec (findClass_of_methodNamed hnamed) hkP hini
  have hU : (T.setVm vm₁).heap = H := hT
  generalize hUe : T.setVm vm₁ = U at V₁ hU hstep₁
  have h : At U (F0 m pc ls rest).method c below := V₁.here
  have hdg' : decode c.code (F0 m pc ls rest).pc = .ok (.invokevirtual index, 3) := by rw [hb]; exact hdg
  obtain ⟨kQ, hkQ, heQ⟩ := V₁.warmed.alike.2.2 _ _ hkP
  have happ : (headSpec ws rm).appliesLoose y e.platform (U.calling (F0 m pc ls rest) mk (Value.ref b :: As).toArray) = true :=
    Spec.appliesLoose_calling (g := F0 m pc ls rest) h hdg' (V₁.named hnamed) hkQ (by rw [heQ]; exact hinitP)
      (V₁.room_calling (g := F0 m pc ls rest) (R' := (headSpec ws rm).room) (hsize.trans hml.symm) (show U.vm.method? mk = some methM by rw [V₁.warmed.alike.method?]; exact hmethM) hcM hfr
        (by show 2 * 0 + (rest.map fun v => v.category).sum + (cM.maxLocals + 11) + rm.locals ≤ R.locals; rw [hlM]; omega) (by show cells + rm.cells ≤ R.cells; rw [hrc]; exact hf.1) (by show slots + rm.slots ≤ R.slots; rw [hrs]; exact hf.2))
      (atoms_intro fun w hw => hws w hw _ _ V₁.warmed)
  obtain ⟨mid, hmid⟩ := h.above
  have hfr' : (U.setTop (F0 m pc ls rest)).frames = (.java (F0 m pc ls rest) :: mid) ++ below := by rw [State.frames_setTop' _ h.top, hmid]; rfl
  obtain ⟨o, s₂, hsteps, -, hend, hq⟩ := Steps.callFree hM p V.admits V.cas V.clock (acts := []) hfr' happ (hblind _ _ _ _ (hPc U hU V₁.warmed)) trivial
  have hq' : xt_E X mc ms (U.calling (F0 m pc ls rest) mk (Value.ref b :: As).toArray) o s₂ := hq
  obtain ⟨⟨a, ce, rfl, hce, hcl, hst⟩, hW₂, hsm⟩ := hq'
  obtain ⟨e2, q2', q3', q4', q5', q6'⟩ := id hsm
  rw [State.frames_setTop' _ h.top] at hend
  have hf₂ : s₂.frames = .throwing a :: .java (F0 m pc ls rest) :: U.frames.tail := hend
  have hWU : U.WarmedH s₂.vm := hW₂
  have e3 : s₂ = ({ (U.calling (F0 m pc ls rest) mk (Value.ref b :: As).toArray).setFrames s₂.frames with heap := s₂.heap, slotsUsed := s₂.slotsUsed } : State).setVm s₂.vm := by
    have : s₂ = ({ s₂ with vm := (U.calling (F0 m pc ls rest) mk (Value.ref b :: As).toArray).vm } : State).setVm s₂.vm := rfl
    rw [e2] at this
    exact this
  obtain ⟨g₀, hg0⟩ := Option.isSome_iff_exists.mp h.top
  obtain ⟨r, hr⟩ := State.topJava?_eq_some.mp hg0
  have hs₂ : s₂ = ((({ U with heap := s₂.heap, slotsUsed := s₂.slotsUsed } : State).setVm s₂.vm).setTop (F0 m pc ls rest)).pushFrame (.throwing a) := by
    have hr' : (({ U with heap := s₂.heap, slotsUsed := s₂.slotsUsed } : State).setVm s₂.vm).frames = .java g₀ :: r := hr
    refine e3.trans ?_
    rw [hf₂, State.calling_eq h.top, State.setFrames_setFrames, State.pushFrame, State.frames_setTop _ hr', State.setTop_of_frames _ hr', State.setFrames_setFrames, hr]
    rfl
  have hsame : U.sameButNew ({ U with heap := s₂.heap, slotsUsed := s₂.slotsUsed } : State) [] mc ms := by
    refine ⟨?_, q2', q3', q4', q5', q6'⟩
    obtain ⟨t, ht, -⟩ := State.frames_cons hr
    show ({ U with heap := s₂.heap, slotsUsed := s₂.slotsUsed } : State) = { U.setFrames U.frames with heap := s₂.heap, slotsUsed := s₂.slotsUsed }
    rw [State.setFrames_self ht]
  have V₂ : Stand p l e R s m args below meth c (({ U with heap := s₂.heap, slotsUsed := s₂.slotsUsed } : State).setVm s₂.vm) (locs ++ []) (cells + mc) (slots + ms) :=
    ⟨V₁.admits, V₁.cas, V₁.clock, V₁.frames, V₁.room, V₁.hears, V₁.method, V₁.code, (V₁.here.setHeapUsed s₂.heap s₂.slotsUsed).setVm hWU.alike, V₁.tail, State.WarmedH.trans V₁.warmed hWU, V₁.limits, V₁.bytes, V₁.same.trans (hsame.setVm s.vm)⟩
  rw [List.append_nil] at V₂
  have hold := xt_old (s := U.calling (F0 m pc ls rest) mk (Value.ref b :: As).toArray) (t := s₂) hsm
  have hcl' : s.vm.findClass X = some ce.cls := by rw [← V₁.warmed.alike.findClass]; exact hcl
  generalize hV : (({ U with heap := s₂.heap, slotsUsed := s₂.slotsUsed } : State).setVm s₂.vm) = Z at V₂ hs₂
  have hZh : Z.heap = s₂.heap := by rw [← hV]; rfl
  have hpl : e.platform.magicAccessors = ({} : Platform).magicAccessors := by rw [V.admits.platform]
  obtain ⟨vm', hW', hfind⟩ := xt_goes (e := e) (s₀ := s) (f := F0 m pc ls rest) (a := a) (cell := ce) (VmData.ne_statics_of hst) (Vm.classAt_of_findClass hcl') c.exceptionTable.toList hpc ((Z.setTop (F0 m pc ls rest)).pushFrame (.throwing a))
    (by rw [Stand.throwing_vm]; exact V₂.warmed) (by rw [Stand.throwing_heap, hZh]; exact hce) (htab _ hpl _ hcl')
  obtain ⟨t, a1, b1⟩ := kk a s₂.heap (by rw [← hU]; exact hold.1) (fun q hq => by rw [← hU]; exact hold.2 q (by rw [← hU] at hq; exact hq)) (Z.setVm vm') hZh (V₂.noted hW')
  refine ⟨t, hstep₁ _ fun acts => ?_, b1⟩
  rw [doInvoke_state]
  refine hsteps.trans ?_
  rw [hs₂]
  exact xt_caught (g := F0 m pc ls rest) V₂.here (fun Q E d acts => by rw [W.findHandler_eq (meth := meth) (code := c) (by rw [Stand.throwing_vm]; exact V₂.method') V₂.code]; exact hfind Q E d acts) a1
end XC
end
section
/-! my own: one memory for all fields, the uniform start and end of a contract, and calls in one row -/
/-- ints, longs, int arrays, long arrays: by the numbers of 04.names -/
abbrev XM : Type := (Nat → Int32) × (Nat → Int64) × (Nat → Nat → Int32) × (Nat → Nat → Int64)
abbrev xty (Z : Nat → ClassId) : List (ClassId × FieldType) := [(Z 0, .int), (Z 1, .long), (Z 2, .boolean)]
def xB (D : va_G) (cl : List vw_C) (tys : List (ClassId × FieldType)) (sz : Nat) (ws : va_W) (U : State) : Prop :=
  U.heap.size = sz ∧ va_P D cl ws U.heap ∧ va_K D cl tys U ∧ va_D (fun _ => True) ws ∧ xq U
theorem xB_blind {D : va_G} {cl : List vw_C} {tys : List (ClassId × FieldType)} {sz : Nat} {ws : va_W} {av : List Value} : FrameBlind (va_Pc av (xB D cl tys sz ws)) := fun a U g mk h => by
  obtain ⟨h0, h1, h2, h3, h4, h5⟩ := h
  exact ⟨h0, h1, h2, va_K.moved (u := U) (U := U.calling g mk a) (Vm.Alike.refl U.vm) h3, h4, xq_same (u := U) (U := U.calling g mk a) rfl h5⟩
theorem xB_at {D : va_G} {cl : List vw_C} {tys : List (ClassId × FieldType)} {ws : va_W} {A : Nat → Prop} {s : State} {H : Heap} (hP : va_P D cl ws H) (hK : va_K D cl tys s) (hD : va_D A ws) (hq : xq s) (U : State) (hU : U.heap = H) (hW : s.WarmedH U.vm) : xB D cl tys H.size ws U :=
  ⟨by rw [hU], by rw [hU]; exact hP, va_K.moved hW.alike hK, hD.weaken (fun _ _ _ _ => trivial), xq_warm hW hq⟩
/-- the world behind a method -/
def xE (D : va_G) (cl : List vw_C) (tys : List (ClassId × FieldType)) (A : Nat → Prop) (ws : va_W) (t : State) : Prop := va_P D cl ws t.heap ∧ va_K D cl tys t ∧ va_D A ws
theorem xE_at {D : va_G} {cl : List vw_C} {tys : List (ClassId × FieldType)} {ws : va_W} {A : Nat → Prop} {s t : State} {H : Heap} (hP : va_P D cl ws H) (hK : va_K D cl tys s) (hD : va_D A ws) (ht : t.heap = H) (hW : s.WarmedH t.vm) : xE D cl tys A ws t :=
  ⟨by rw [ht]; exact hP, va_K.moved hW.alike hK, hD⟩
theorem xw_V (c0 : Cond) {c1 : Cond} {own C : String} {idx : Nat} {y : MethodName} (h1 : Cond.methodLink own idx y ∈ xw) (h2 : Cond.instanceMethod y ∈ xw) (h3 : Cond.selects C y y ∈ xw) (h4 : Cond.initialized C ∈ xw) (h5 : c1 ∈ xw) : GoodIn (c0 :: xw) (wsV own idx C y (c1 :: xw)) :=
  xw_app c0 (List.forall_mem_cons.mpr ⟨h1, List.forall_mem_cons.mpr ⟨h2, List.forall_mem_cons.mpr ⟨h3, List.forall_mem_cons.mpr ⟨h4, fun _ h => absurd h List.not_mem_nil⟩⟩⟩⟩) (xw_call c0 h5)
theorem xw_S (c0 : Cond) {c1 : Cond} {own : String} {idx : Nat} {y : MethodName} (h1 : Cond.methodLink own idx y ∈ xw) (h2 : Cond.static y ∈ xw) (h4 : Cond.initialized y.cls ∈ xw) (h5 : c1 ∈ xw) : GoodIn (c0 :: xw) (va_wsS own idx y (c1 :: xw)) :=
  xw_app c0 (List.forall_mem_cons.mpr ⟨h1, List.forall_mem_cons.mpr ⟨h2, List.forall_mem_cons.mpr ⟨h4, fun _ h => absurd h List.not_mem_nil⟩⟩⟩) (xw_call c0 h5)
section XK
variable {p : Program} {l : Launch} {e : Env} {R : Room} {s : State} {m : MethodId} {args : Array Value} {below : List Frame} {meth : Method} {c : Code} {H : Heap} {locs : List Loc} {cells slots : Nat} {Q : State → Prop}
variable {pc : Nat} {ls : Array Slot} {rest st0 : List Value} {a : Array Value} {A0 : Nat → Prop} {H0 : Heap} {mc ms : Nat} {D : va_G} {cl : List vw_C} {tys : List (ClassId × FieldType)} {ws wc wr : va_W}
/-- a call of a method that only reads -/
theorem xk_p {r : Value} (hr : va_Run p l e R s m args below meth c H locs cells slots 0 0 (F0 m pc ls st0) rest (k2_QcV r a) (fun _ => False))
    (kk : W p l e R s m args below meth c H locs cells slots Q (F0 m (pc + 3) ls (r :: rest))) : W p l e R s m args below meth c H locs cells slots Q (F0 m pc ls st0) :=
  W.callV hr.run kk
/-- a call of a method that writes its world: no answer -/
theorem xk_v {S : Type} {post : S → Prop} {w1 : S → va_W} (hr : va_Run p l e R s m args below meth c H locs cells slots mc ms (F0 m pc ls st0) rest (va_Qv post (fun u => xE D cl tys (va_A wc H.size) (w1 u)) (va_A wc H.size) a) (va_A wc H.size))
    (hP : va_P D cl ws H) (hD : va_D A0 ws) (hS : va_S A0 H0 H locs) (hA : ∀ q, H0.size ≤ q → A0 q) (isC isR : List Nat) (hC : isC.map (fun i => ws[i]?) = wc.map some) (hR : isR.map (fun i => ws[i]?) = wr.map some) (hn : va_nd isR = true) (hdis : ∀ i ∈ isR, i ∉ isC)
    (kk : ∀ (u : S) (H1 : Heap) (locs1 : List Loc), post u → va_P D cl (wr ++ w1 u) H1 → va_D A0 (wr ++ w1 u) → va_S A0 H0 H1 locs1 → W p l e R s m args below meth c H1 locs1 (cells + mc) (slots + ms) Q (F0 m (pc + 3) ls rest)) : W p l e R s m args below meth c H locs cells slots Q (F0 m pc ls st0) := by
  have hFc := va_free (wc := wc) hD hS hA isC hC
  refine va_callv hr hS (fun q _ h => hFc q h) hFc (fun u t H1 locs1 ht hvm hu hB hz1 hk1 hS1 => ?_)
  obtain ⟨hP1, hK1, hD1⟩ := hB
  rw [ht] at hP1
  obtain ⟨hP2, hD2⟩ := va_join hP hD isC isR hC hR hn hdis hk1 hFc hP1 hD1
  exact kk u H1 locs1 hu hP2 hD2 hS1
theorem xk_i {S : Type} {post : Int32 → S → Prop} {w1 : S → va_W} (hr : va_Run p l e R s m args below meth c H locs cells slots mc ms (F0 m pc ls st0) rest (va_Qi post (fun u => xE D cl tys (va_A wc H.size) (w1 u)) (va_A wc H.size) a) (va_A wc H.size))
    (hP : va_P D cl ws H) (hD : va_D A0 ws) (hS : va_S A0 H0 H locs) (hA : ∀ q, H0.size ≤ q → A0 q) (isC isR : List Nat) (hC : isC.map (fun i => ws[i]?) = wc.map some) (hR : isR.map (fun i => ws[i]?) = wr.map some) (hn : va_nd isR = true) (hdis : ∀ i ∈ isR, i ∉ isC)
    (kk : ∀ (r : Int32) (u : S) (H1 : Heap) (locs1 : List Loc), post r u → va_P D cl (wr ++ w1 u) H1 → va_D A0 (wr ++ w1 u) → va_S A0 H0 H1 locs1 → W p l e R s m args below meth c H1 locs1 (cells + mc) (slots + ms) Q (F0 m (pc + 3) ls (.int r :: rest))) : W p l e R s m args below meth c H locs cells slots Q (F0 m pc ls st0) := by
  have hFc := va_free (wc := wc) hD hS hA isC hC
  refine va_calli hr hS (fun q _ h => hFc q h) hFc (fun r u t H1 locs1 ht hvm hu hB hz1 hk1 hS1 => ?_)
  obtain ⟨hP1, hK1, hD1⟩ := hB
  rw [ht] at hP1
  obtain ⟨hP2, hD2⟩ := va_join hP hD isC isR hC hR hn hdis hk1 hFc hP1 hD1
  exact kk r u H1 locs1 hu hP2 hD2 hS1
theorem xk_l {S : Type} {post : Int64 → S → Prop} {w1 : S → va_W} (hr : va_Run p l e R s m args below meth c H locs cells slots mc ms (F0 m pc ls st0) rest (va_Ql post (fun u => xE D cl tys (va_A wc H.size) (w1 u)) (va_A wc H.size) a) (va_A wc H.size))
    (hP : va_P D cl ws H) (hD : va_D A0 ws) (hS : va_S A0 H0 H locs) (hA : ∀ q, H0.size ≤ q → A0 q) (isC isR : List Nat) (hC : isC.map (fun i => ws[i]?) = wc.map some) (hR : isR.map (fun i => ws[i]?) = wr.map some) (hn : va_nd isR = true) (hdis : ∀ i ∈ isR, i ∉ isC)
    (kk : ∀ (r : Int64) (u : S) (H1 : Heap) (locs1 : List Loc), post r u → va_P D cl (wr ++ w1 u) H1 → va_D A0 (wr ++ w1 u) → va_S A0 H0 H1 locs1 → W p l e R s m args below meth c H1 locs1 (cells + mc) (slots + ms) Q (F0 m (pc + 3) ls (.long r :: rest))) : W p l e R s m args below meth c H locs cells slots Q (F0 m pc ls st0) := by
  have hFc := va_free (wc := wc) hD hS hA isC hC
  refine va_calll hr hS (fun q _ h => hFc q h) hFc (fun r u t H1 locs1 ht hvm hu hB hz1 hk1 hS1 => ?_)
  obtain ⟨hP1, hK1, hD1⟩ := hB
  rw [ht] at hP1
  obtain ⟨hP2, hD2⟩ := va_join hP hD isC isR hC hR hn hdis hk1 hFc hP1 hD1
  exact kk r u H1 locs1 hu hP2 hD2 hS1
end XK
theorem xz_nar {z : Int32} (h : z = 0 ∨ z = 1) : narrow .boolean (.int z) = .int z := by rcases h with rfl | rfl <;> rfl
theorem xz_fit {z : Int32} (h : z = 0 ∨ z = 1) : fits .boolean (.int z) = true := by rcases h with rfl | rfl <;> rfl
section XJ
variable {p : Program} {l : Launch} {e : Env} {R : Room} {s : State} {m : MethodId} {args : Array Value} {below : List Frame} {meth : Method} {c : Code} {H : Heap} {locs : List Loc} {cells slots : Nat} {Q : State → Prop} {g0 : JFrame}
/-- two roads that meet: what differs at the meeting is one value j -/
theorem xj_p {T : Type} (nL J : Nat) (lvf : T → List (Nat × Value)) (stf : T → List Value) (P : T → Prop)
    (k1 : (∀ (ls : Array Slot) (j : T), lv_has ls nL (lvf j) → P j → W p l e R s m args below meth c H locs cells slots Q (F0 m J ls (stf j))) → W p l e R s m args below meth c H locs cells slots Q g0)
    (k2 : ∀ (ls : Array Slot) (j : T), lv_has ls nL (lvf j) → P j → W p l e R s m args below meth c H locs cells slots Q (F0 m J ls (stf j))) : W p l e R s m args below meth c H locs cells slots Q g0 := k1 k2
theorem xj_h {D : va_G} {cl : List vw_C} {AA : Nat → Prop} {H0 : Heap} {T : Type} (nL J : Nat) (lvf : T → List (Nat × Value)) (stf : T → List Value) (wsf : T → va_W) (P : T → Prop)
    (k1 : (∀ (H : Heap) (locs : List Loc) (ls : Array Slot) (j : T), va_P D cl (wsf j) H → va_D AA (wsf j) → va_S AA H0 H locs → lv_has ls nL (lvf j) → P j → W p l e R s m args below meth c H locs cells slots Q (F0 m J ls (stf j))) → W p l e R s m args below meth c H locs cells slots Q g0)
    (k2 : ∀ (H : Heap) (locs : List Loc) (ls : Array Slot) (j : T), va_P D cl (wsf j) H → va_D AA (wsf j) → va_S AA H0 H locs → lv_has ls nL (lvf j) → P j → W p l e R s m args below meth c H locs cells slots Q (F0 m J ls (stf j))) : W p l e R s m args below meth c H locs cells slots Q g0 := k1 k2
end XJ
end
section
/-! printed by my own program (wip/gen): classes, fields, cells -/
def xF0 : u_T := fun k => match k with
  | 0 => ("CentrifugeUnit$Control", "rotors", "LCentrifugeUnit$Rotors;", true)
  | 1 => ("CentrifugeUnit$Control", "program", "LCentrifugeUnit$Program;", true)
  | 2 => ("CentrifugeUnit$Control", "sensors", "LCentrifugeUnit$Sensors;", true)
  | 3 => ("CentrifugeUnit$Control", "lid", "LCentrifugeUnit$Lid;", true)
  | 4 => ("CentrifugeUnit$Control", "records", "LCentrifugeUnit$Records;", true)
  | 5 => ("CentrifugeUnit$Control", "watch", "LCentrifugeUnit$Watch;", true)
  | 6 => ("CentrifugeUnit$Control", "run", "LCentrifugeUnit$Run;", true)
  | 7 => ("CentrifugeUnit$Control", "powered", "Z", false)
  | 8 => ("CentrifugeUnit$Control", "chamberCenti", "I", false)
  | 9 => ("CentrifugeUnit$Control", "state", "I", false)
  | 10 => ("CentrifugeUnit$Control", "reason", "I", false)
  | 11 => ("CentrifugeUnit$Control", "drive", "I", false)
  | 12 => ("CentrifugeUnit$Control", "brake", "I", false)
  | _ => ("CentrifugeUnit$Control", "coilFed", "Z", false)
def xT0 : Nat → FieldType := fun k => match k with
  | 0 => .object "CentrifugeUnit$Rotors"
  | 1 => .object "CentrifugeUnit$Program"
  | 2 => .object "CentrifugeUnit$Sensors"
  | 3 => .object "CentrifugeUnit$Lid"
  | 4 => .object "CentrifugeUnit$Records"
  | 5 => .object "CentrifugeUnit$Watch"
  | 6 => .object "CentrifugeUnit$Run"
  | 7 => .boolean
  | 8 => .int
  | 9 => .int
  | 10 => .int
  | 11 => .int
  | 12 => .int
  | _ => .boolean
set_option maxRecDepth 20000 in
theorem xNm0 : ∀ a, a < 14 → ∀ b, b < 14 → a ≠ b → (xF0 a).2.1 ≠ (xF0 b).2.1 := by decide +kernel
set_option maxRecDepth 20000 in
theorem xTo0 : ∀ k, k < 14 → parseFieldDescriptor (xF0 k).2.2.1 = some (xT0 k) := by decide +kernel
def xF1 : u_T := fun k => match k with
  | 0 => ("CentrifugeUnit$Lid", "contactA", "Z", false)
  | 1 => ("CentrifugeUnit$Lid", "contactB", "Z", false)
  | _ => ("CentrifugeUnit$Lid", "coilTicksLeft", "I", false)
def xT1 : Nat → FieldType := fun k => match k with
  | 0 => .boolean
  | 1 => .boolean
  | _ => .int
set_option maxRecDepth 20000 in
theorem xNm1 : ∀ a, a < 3 → ∀ b, b < 3 → a ≠ b → (xF1 a).2.1 ≠ (xF1 b).2.1 := by decide +kernel
set_option maxRecDepth 20000 in
theorem xTo1 : ∀ k, k < 3 → parseFieldDescriptor (xF1 k).2.2.1 = some (xT1 k) := by decide +kernel
def xF2 : u_T := fun k => match k with
  | _ => ("CentrifugeUnit$Model", "speed", "J", false)
def xT2 : Nat → FieldType := fun k => match k with
  | _ => .long
set_option maxRecDepth 20000 in
theorem xNm2 : ∀ a, a < 1 → ∀ b, b < 1 → a ≠ b → (xF2 a).2.1 ≠ (xF2 b).2.1 := by decide +kernel
set_option maxRecDepth 20000 in
theorem xTo2 : ∀ k, k < 1 → parseFieldDescriptor (xF2 k).2.2.1 = some (xT2 k) := by decide +kernel
def xF3 : u_T := fun k => match k with
  | 0 => ("CentrifugeUnit$Program", "kinds", "[I", true)
  | 1 => ("CentrifugeUnit$Program", "firsts", "[I", true)
  | 2 => ("CentrifugeUnit$Program", "seconds", "[I", true)
  | _ => ("CentrifugeUnit$Program", "count", "I", false)
def xT3 : Nat → FieldType := fun k => match k with
  | 0 => .array .int
  | 1 => .array .int
  | 2 => .array .int
  | _ => .int
set_option maxRecDepth 20000 in
theorem xNm3 : ∀ a, a < 4 → ∀ b, b < 4 → a ≠ b → (xF3 a).2.1 ≠ (xF3 b).2.1 := by decide +kernel
set_option maxRecDepth 20000 in
theorem xTo3 : ∀ k, k < 4 → parseFieldDescriptor (xF3 k).2.2.1 = some (xT3 k) := by decide +kernel
def xF4 : u_T := fun k => match k with
  | 0 => ("CentrifugeUnit$Records", "reasons", "[I", true)
  | 1 => ("CentrifugeUnit$Records", "doses", "[J", true)
  | 2 => ("CentrifugeUnit$Records", "speeds", "[I", true)
  | _ => ("CentrifugeUnit$Records", "total", "I", false)
def xT4 : Nat → FieldType := fun k => match k with
  | 0 => .array .int
  | 1 => .array .long
  | 2 => .array .int
  | _ => .int
set_option maxRecDepth 20000 in
theorem xNm4 : ∀ a, a < 4 → ∀ b, b < 4 → a ≠ b → (xF4 a).2.1 ≠ (xF4 b).2.1 := by decide +kernel
set_option maxRecDepth 20000 in
theorem xTo4 : ∀ k, k < 4 → parseFieldDescriptor (xF4 k).2.2.1 = some (xT4 k) := by decide +kernel
def xF5 : u_T := fun k => match k with
  | 0 => ("CentrifugeUnit$Rotors", "patterns", "[I", true)
  | 1 => ("CentrifugeUnit$Rotors", "radii", "[I", true)
  | 2 => ("CentrifugeUnit$Rotors", "limits", "[I", true)
  | 3 => ("CentrifugeUnit$Rotors", "inertias", "[I", true)
  | _ => ("CentrifugeUnit$Rotors", "in", "I", false)
def xT5 : Nat → FieldType := fun k => match k with
  | 0 => .array .int
  | 1 => .array .int
  | 2 => .array .int
  | 3 => .array .int
  | _ => .int
set_option maxRecDepth 20000 in
theorem xNm5 : ∀ a, a < 5 → ∀ b, b < 5 → a ≠ b → (xF5 a).2.1 ≠ (xF5 b).2.1 := by decide +kernel
set_option maxRecDepth 20000 in
theorem xTo5 : ∀ k, k < 5 → parseFieldDescriptor (xF5 k).2.2.1 = some (xT5 k) := by decide +kernel
def xF6 : u_T := fun k => match k with
  | 0 => ("CentrifugeUnit$Run", "dose", "J", false)
  | 1 => ("CentrifugeUnit$Run", "turns", "J", false)
  | 2 => ("CentrifugeUnit$Run", "rotorRead", "I", false)
  | 3 => ("CentrifugeUnit$Run", "wrongPattern", "Z", false)
  | 4 => ("CentrifugeUnit$Run", "greatest", "I", false)
  | 5 => ("CentrifugeUnit$Run", "at", "I", false)
  | 6 => ("CentrifugeUnit$Run", "ticksInSegment", "I", false)
  | _ => ("CentrifugeUnit$Run", "goal", "I", false)
def xT6 : Nat → FieldType := fun k => match k with
  | 0 => .long
  | 1 => .long
  | 2 => .int
  | 3 => .boolean
  | 4 => .int
  | 5 => .int
  | 6 => .int
  | _ => .int
set_option maxRecDepth 20000 in
theorem xNm6 : ∀ a, a < 8 → ∀ b, b < 8 → a ≠ b → (xF6 a).2.1 ≠ (xF6 b).2.1 := by decide +kernel
set_option maxRecDepth 20000 in
theorem xTo6 : ∀ k, k < 8 → parseFieldDescriptor (xF6 k).2.2.1 = some (xT6 k) := by decide +kernel
def xF7 : u_T := fun k => match k with
  | 0 => ("CentrifugeUnit$Sensors", "tachoTells", "I", false)
  | 1 => ("CentrifugeUnit$Sensors", "commutatorTells", "I", false)
  | 2 => ("CentrifugeUnit$Sensors", "tachoSpeed", "I", false)
  | 3 => ("CentrifugeUnit$Sensors", "commutatorSpeed", "I", false)
  | 4 => ("CentrifugeUnit$Sensors", "used", "I", false)
  | _ => ("CentrifugeUnit$Sensors", "lesser", "I", false)
def xT7 : Nat → FieldType := fun k => match k with
  | 0 => .int
  | 1 => .int
  | 2 => .int
  | 3 => .int
  | 4 => .int
  | _ => .int
set_option maxRecDepth 20000 in
theorem xNm7 : ∀ a, a < 6 → ∀ b, b < 6 → a ≠ b → (xF7 a).2.1 ≠ (xF7 b).2.1 := by decide +kernel
set_option maxRecDepth 20000 in
theorem xTo7 : ∀ k, k < 6 → parseFieldDescriptor (xF7 k).2.2.1 = some (xT7 k) := by decide +kernel
def xF8 : u_T := fun k => match k with
  | 0 => ("CentrifugeUnit$Watch", "shaking", "I", false)
  | 1 => ("CentrifugeUnit$Watch", "restRow", "I", false)
  | 2 => ("CentrifugeUnit$Watch", "shakingRow", "I", false)
  | _ => ("CentrifugeUnit$Watch", "differingRow", "I", false)
def xT8 : Nat → FieldType := fun k => match k with
  | 0 => .int
  | 1 => .int
  | 2 => .int
  | _ => .int
set_option maxRecDepth 20000 in
theorem xNm8 : ∀ a, a < 4 → ∀ b, b < 4 → a ≠ b → (xF8 a).2.1 ≠ (xF8 b).2.1 := by decide +kernel
set_option maxRecDepth 20000 in
theorem xTo8 : ∀ k, k < 4 → parseFieldDescriptor (xF8 k).2.2.1 = some (xT8 k) := by decide +kernel
def xF9 : u_T := fun k => match k with
  | 0 => ("CentrifugeUnit", "rotors", "LCentrifugeUnit$Rotors;", true)
  | 1 => ("CentrifugeUnit", "program", "LCentrifugeUnit$Program;", true)
  | 2 => ("CentrifugeUnit", "model", "LCentrifugeUnit$Model;", true)
  | 3 => ("CentrifugeUnit", "sensors", "LCentrifugeUnit$Sensors;", true)
  | 4 => ("CentrifugeUnit", "lid", "LCentrifugeUnit$Lid;", true)
  | 5 => ("CentrifugeUnit", "records", "LCentrifugeUnit$Records;", true)
  | _ => ("CentrifugeUnit", "control", "LCentrifugeUnit$Control;", true)
def xT9 : Nat → FieldType := fun k => match k with
  | 0 => .object "CentrifugeUnit$Rotors"
  | 1 => .object "CentrifugeUnit$Program"
  | 2 => .object "CentrifugeUnit$Model"
  | 3 => .object "CentrifugeUnit$Sensors"
  | 4 => .object "CentrifugeUnit$Lid"
  | 5 => .object "CentrifugeUnit$Records"
  | _ => .object "CentrifugeUnit$Control"
set_option maxRecDepth 20000 in
theorem xNm9 : ∀ a, a < 7 → ∀ b, b < 7 → a ≠ b → (xF9 a).2.1 ≠ (xF9 b).2.1 := by decide +kernel
set_option maxRecDepth 20000 in
theorem xTo9 : ∀ k, k < 7 → parseFieldDescriptor (xF9 k).2.2.1 = some (xT9 k) := by decide +kernel
def xF10 : u_T := fun k => match k with
  | 0 => ("CentrifugeUnitModel", "thrown", "I", false)
  | 1 => ("CentrifugeUnitModel", "told", "[Z", true)
  | 2 => ("CentrifugeUnitModel", "pattern", "[I", true)
  | 3 => ("CentrifugeUnitModel", "radius", "[I", true)
  | 4 => ("CentrifugeUnitModel", "limit", "[I", true)
  | 5 => ("CentrifugeUnitModel", "inertia", "[I", true)
  | 6 => ("CentrifugeUnitModel", "inside", "I", false)
  | 7 => ("CentrifugeUnitModel", "kind", "[I", true)
  | 8 => ("CentrifugeUnitModel", "goalOf", "[I", true)
  | 9 => ("CentrifugeUnitModel", "slope", "[I", true)
  | 10 => ("CentrifugeUnitModel", "segments", "I", false)
  | 11 => ("CentrifugeUnitModel", "speed", "J", false)
  | 12 => ("CentrifugeUnitModel", "drive", "I", false)
  | 13 => ("CentrifugeUnitModel", "brake", "I", false)
  | 14 => ("CentrifugeUnitModel", "fed", "Z", false)
  | 15 => ("CentrifugeUnitModel", "coil", "I", false)
  | 16 => ("CentrifugeUnitModel", "tacho", "I", false)
  | 17 => ("CentrifugeUnitModel", "counter", "I", false)
  | 18 => ("CentrifugeUnitModel", "first", "J", false)
  | 19 => ("CentrifugeUnitModel", "second", "J", false)
  | 20 => ("CentrifugeUnitModel", "used", "J", false)
  | 21 => ("CentrifugeUnitModel", "power", "Z", false)
  | 22 => ("CentrifugeUnitModel", "state", "I", false)
  | 23 => ("CentrifugeUnitModel", "reason", "I", false)
  | 24 => ("CentrifugeUnitModel", "segment", "I", false)
  | 25 => ("CentrifugeUnitModel", "passed", "I", false)
  | 26 => ("CentrifugeUnitModel", "goal", "J", false)
  | 27 => ("CentrifugeUnitModel", "dose", "J", false)
  | 28 => ("CentrifugeUnitModel", "sum", "J", false)
  | 29 => ("CentrifugeUnitModel", "any", "Z", false)
  | 30 => ("CentrifugeUnitModel", "firstPattern", "I", false)
  | 31 => ("CentrifugeUnitModel", "rotor", "I", false)
  | 32 => ("CentrifugeUnitModel", "wrongPattern", "Z", false)
  | 33 => ("CentrifugeUnitModel", "resting", "I", false)
  | 34 => ("CentrifugeUnitModel", "shaking", "I", false)
  | 35 => ("CentrifugeUnitModel", "apart", "I", false)
  | 36 => ("CentrifugeUnitModel", "contactA", "Z", false)
  | 37 => ("CentrifugeUnitModel", "contactB", "Z", false)
  | 38 => ("CentrifugeUnitModel", "level", "I", false)
  | 39 => ("CentrifugeUnitModel", "chamber", "I", false)
  | 40 => ("CentrifugeUnitModel", "greatest", "J", false)
  | 41 => ("CentrifugeUnitModel", "records", "I", false)
  | 42 => ("CentrifugeUnitModel", "reasonOf", "[J", true)
  | 43 => ("CentrifugeUnitModel", "doseOf", "[J", true)
  | _ => ("CentrifugeUnitModel", "greatestOf", "[J", true)
def xT10 : Nat → FieldType := fun k => match k with
  | 0 => .int
  | 1 => .array .boolean
  | 2 => .array .int
  | 3 => .array .int
  | 4 => .array .int
  | 5 => .array .int
  | 6 => .int
  | 7 => .array .int
  | 8 => .array .int
  | 9 => .array .int
  | 10 => .int
  | 11 => .long
  | 12 => .int
  | 13 => .int
  | 14 => .boolean
  | 15 => .int
  | 16 => .int
  | 17 => .int
  | 18 => .long
  | 19 => .long
  | 20 => .long
  | 21 => .boolean
  | 22 => .int
  | 23 => .int
  | 24 => .int
  | 25 => .int
  | 26 => .long
  | 27 => .long
  | 28 => .long
  | 29 => .boolean
  | 30 => .int
  | 31 => .int
  | 32 => .boolean
  | 33 => .int
  | 34 => .int
  | 35 => .int
  | 36 => .boolean
  | 37 => .boolean
  | 38 => .int
  | 39 => .int
  | 40 => .long
  | 41 => .int
  | 42 => .array .long
  | 43 => .array .long
  | _ => .array .long
set_option maxRecDepth 20000 in
theorem xNm10 : ∀ a, a < 45 → ∀ b, b < 45 → a ≠ b → (xF10 a).2.1 ≠ (xF10 b).2.1 := by decide +kernel
set_option maxRecDepth 20000 in
theorem xTo10 : ∀ k, k < 45 → parseFieldDescriptor (xF10 k).2.2.1 = some (xT10 k) := by decide +kernel
abbrev xcl : List vw_C := [("CentrifugeUnit$Control", xF0, 14), ("CentrifugeUnit$Lid", xF1, 3), ("CentrifugeUnit$Model", xF2, 1), ("CentrifugeUnit$Program", xF3, 4), ("CentrifugeUnit$Records", xF4, 4), ("CentrifugeUnit$Rotors", xF5, 5), ("CentrifugeUnit$Run", xF6, 8), ("CentrifugeUnit$Sensors", xF7, 6), ("CentrifugeUnit$Watch", xF8, 4), ("CentrifugeUnit", xF9, 7), ("CentrifugeUnitModel", xF10, 45)]
abbrev xc0 (Z : Nat → ClassId) (A : Nat → Nat) (M : XM) : va_E := .inr (9, [.ref (A 1), .ref (A 6), .ref (A 10), .ref (A 11), .ref (A 12), .ref (A 13), .ref (A 17)])
abbrev xc1 (Z : Nat → ClassId) (A : Nat → Nat) (M : XM) : va_E := .inr (5, [.ref (A 2), .ref (A 3), .ref (A 4), .ref (A 5), .int (M.1 0)])
abbrev xc2 (Z : Nat → ClassId) (A : Nat → Nat) (M : XM) : va_E := .inl (Z 0, 4, .inl (M.2.2.1 2))
abbrev xc3 (Z : Nat → ClassId) (A : Nat → Nat) (M : XM) : va_E := .inl (Z 0, 4, .inl (M.2.2.1 3))
abbrev xc4 (Z : Nat → ClassId) (A : Nat → Nat) (M : XM) : va_E := .inl (Z 0, 4, .inl (M.2.2.1 4))
abbrev xc5 (Z : Nat → ClassId) (A : Nat → Nat) (M : XM) : va_E := .inl (Z 0, 4, .inl (M.2.2.1 5))
abbrev xc6 (Z : Nat → ClassId) (A : Nat → Nat) (M : XM) : va_E := .inr (3, [.ref (A 7), .ref (A 8), .ref (A 9), .int (M.1 1)])
abbrev xc7 (Z : Nat → ClassId) (A : Nat → Nat) (M : XM) : va_E := .inl (Z 0, 12, .inl (M.2.2.1 7))
abbrev xc8 (Z : Nat → ClassId) (A : Nat → Nat) (M : XM) : va_E := .inl (Z 0, 12, .inl (M.2.2.1 8))
abbrev xc9 (Z : Nat → ClassId) (A : Nat → Nat) (M : XM) : va_E := .inl (Z 0, 12, .inl (M.2.2.1 9))
abbrev xc10 (Z : Nat → ClassId) (A : Nat → Nat) (M : XM) : va_E := .inr (2, [.long (M.2.1 0)])
abbrev xc11 (Z : Nat → ClassId) (A : Nat → Nat) (M : XM) : va_E := .inr (7, [.int (M.1 2), .int (M.1 3), .int (M.1 4), .int (M.1 5), .int (M.1 6), .int (M.1 7)])
abbrev xc12 (Z : Nat → ClassId) (A : Nat → Nat) (M : XM) : va_E := .inr (1, [.int (M.1 8), .int (M.1 9), .int (M.1 10)])
abbrev xc13 (Z : Nat → ClassId) (A : Nat → Nat) (M : XM) : va_E := .inr (4, [.ref (A 14), .ref (A 15), .ref (A 16), .int (M.1 11)])
abbrev xc14 (Z : Nat → ClassId) (A : Nat → Nat) (M : XM) : va_E := .inl (Z 0, 16, .inl (M.2.2.1 14))
abbrev xc15 (Z : Nat → ClassId) (A : Nat → Nat) (M : XM) : va_E := .inl (Z 1, 16, .inr (.inl (M.2.2.2 15)))
abbrev xc16 (Z : Nat → ClassId) (A : Nat → Nat) (M : XM) : va_E := .inl (Z 0, 16, .inl (M.2.2.1 16))
abbrev xc17 (Z : Nat → ClassId) (A : Nat → Nat) (M : XM) : va_E := .inr (0, [.ref (A 1), .ref (A 6), .ref (A 11), .ref (A 12), .ref (A 13), .ref (A 18), .ref (A 19), .int (M.1 12), .int (M.1 13), .int (M.1 14), .int (M.1 15), .int (M.1 16), .int (M.1 17), .int (M.1 18)])
abbrev xc18 (Z : Nat → ClassId) (A : Nat → Nat) (M : XM) : va_E := .inr (8, [.int (M.1 19), .int (M.1 20), .int (M.1 21), .int (M.1 22)])
abbrev xc19 (Z : Nat → ClassId) (A : Nat → Nat) (M : XM) : va_E := .inr (6, [.long (M.2.1 1), .long (M.2.1 2), .int (M.1 23), .int (M.1 24), .int (M.1 25), .int (M.1 26), .int (M.1 27), .int (M.1 28)])
abbrev xc20 (Z : Nat → ClassId) (A : Nat → Nat) (M : XM) : va_E := .inr (10, [.int (M.1 100), .ref (A 21), .ref (A 22), .ref (A 23), .ref (A 24), .ref (A 25), .int (M.1 101), .ref (A 26), .ref (A 27), .ref (A 28), .int (M.1 102), .long (M.2.1 100), .int (M.1 103), .int (M.1 104), .int (M.1 105), .int (M.1 106), .int (M.1 107), .int (M.1 108), .long (M.2.1 101), .long (M.2.1 102), .long (M.2.1 103), .int (M.1 109), .int (M.1 110), .int (M.1 111), .int (M.1 112), .int (M.1 113), .long (M.2.1 104), .long (M.2.1 105), .long (M.2.1 106), .int (M.1 114), .int (M.1 115), .int (M.1 116), .int (M.1 117), .int (M.1 118), .int (M.1 119), .int (M.1 120), .int (M.1 121), .int (M.1 122), .int (M.1 123), .int (M.1 124), .long (M.2.1 107), .int (M.1 125), .ref (A 29), .ref (A 30), .ref (A 31)])
abbrev xc21 (Z : Nat → ClassId) (A : Nat → Nat) (M : XM) : va_E := .inl (Z 2, 4, .inl (M.2.2.1 21))
abbrev xc22 (Z : Nat → ClassId) (A : Nat → Nat) (M : XM) : va_E := .inl (Z 0, 4, .inl (M.2.2.1 22))
abbrev xc23 (Z : Nat → ClassId) (A : Nat → Nat) (M : XM) : va_E := .inl (Z 0, 4, .inl (M.2.2.1 23))
abbrev xc24 (Z : Nat → ClassId) (A : Nat → Nat) (M : XM) : va_E := .inl (Z 0, 4, .inl (M.2.2.1 24))
abbrev xc25 (Z : Nat → ClassId) (A : Nat → Nat) (M : XM) : va_E := .inl (Z 0, 4, .inl (M.2.2.1 25))
abbrev xc26 (Z : Nat → ClassId) (A : Nat → Nat) (M : XM) : va_E := .inl (Z 0, 12, .inl (M.2.2.1 26))
abbrev xc27 (Z : Nat → ClassId) (A : Nat → Nat) (M : XM) : va_E := .inl (Z 0, 12, .inl (M.2.2.1 27))
abbrev xc28 (Z : Nat → ClassId) (A : Nat → Nat) (M : XM) : va_E := .inl (Z 0, 12, .inl (M.2.2.1 28))
abbrev xc29 (Z : Nat → ClassId) (A : Nat → Nat) (M : XM) : va_E := .inl (Z 1, 16, .inr (.inl (M.2.2.2 29)))
abbrev xc30 (Z : Nat → ClassId) (A : Nat → Nat) (M : XM) : va_E := .inl (Z 1, 16, .inr (.inl (M.2.2.2 30)))
abbrev xc31 (Z : Nat → ClassId) (A : Nat → Nat) (M : XM) : va_E := .inl (Z 1, 16, .inr (.inl (M.2.2.2 31)))
abbrev xc32 (Z : Nat → ClassId) (A : Nat → Nat) (M : XM) : va_E := .inl (Z 1, 1, .inr (.inl (M.2.2.2 32)))
set_option maxRecDepth 20000 in
theorem tw_1 : Cond.initialized "CentrifugeUnit" ∈ xw := xw_of (List.mem_append_right _ (List.mem_of_getElem? (i := 1) (by decide +kernel))) rfl
set_option maxRecDepth 20000 in
theorem tw_43 : Cond.laysFinal "CentrifugeUnit$Rotors" "CentrifugeUnit$Rotors" "patterns" "[I" ∈ xw := xw_of (List.mem_append_right _ (List.mem_of_getElem? (i := 43) (by decide +kernel))) rfl
set_option maxRecDepth 20000 in
theorem tw_45 : Cond.laysFinal "CentrifugeUnit$Rotors" "CentrifugeUnit$Rotors" "radii" "[I" ∈ xw := xw_of (List.mem_append_right _ (List.mem_of_getElem? (i := 45) (by decide +kernel))) rfl
set_option maxRecDepth 20000 in
theorem tw_47 : Cond.laysFinal "CentrifugeUnit$Rotors" "CentrifugeUnit$Rotors" "limits" "[I" ∈ xw := xw_of (List.mem_append_right _ (List.mem_of_getElem? (i := 47) (by decide +kernel))) rfl
set_option maxRecDepth 20000 in
theorem tw_49 : Cond.laysFinal "CentrifugeUnit$Rotors" "CentrifugeUnit$Rotors" "inertias" "[I" ∈ xw := xw_of (List.mem_append_right _ (List.mem_of_getElem? (i := 49) (by decide +kernel))) rfl
set_option maxRecDepth 20000 in
theorem tw_51 : Cond.lays "CentrifugeUnit$Rotors" "CentrifugeUnit$Rotors" "in" "I" ∈ xw := xw_of (List.mem_append_right _ (List.mem_of_getElem? (i := 51) (by decide +kernel))) rfl
set_option maxRecDepth 20000 in
theorem tw_69 : Cond.laysFinal "CentrifugeUnit$Program" "CentrifugeUnit$Program" "kinds" "[I" ∈ xw := xw_of (List.mem_append_right _ (List.mem_of_getElem? (i := 69) (by decide +kernel))) rfl
set_option maxRecDepth 20000 in
theorem tw_71 : Cond.laysFinal "CentrifugeUnit$Program" "CentrifugeUnit$Program" "firsts" "[I" ∈ xw := xw_of (List.mem_append_right _ (List.mem_of_getElem? (i := 71) (by decide +kernel))) rfl
set_option maxRecDepth 20000 in
theorem tw_73 : Cond.laysFinal "CentrifugeUnit$Program" "CentrifugeUnit$Program" "seconds" "[I" ∈ xw := xw_of (List.mem_append_right _ (List.mem_of_getElem? (i := 73) (by decide +kernel))) rfl
set_option maxRecDepth 20000 in
theorem tw_75 : Cond.lays "CentrifugeUnit$Program" "CentrifugeUnit$Program" "count" "I" ∈ xw := xw_of (List.mem_append_right _ (List.mem_of_getElem? (i := 75) (by decide +kernel))) rfl
set_option maxRecDepth 20000 in
theorem tw_86 : Cond.lays "CentrifugeUnit$Model" "CentrifugeUnit$Model" "speed" "J" ∈ xw := xw_of (List.mem_append_right _ (List.mem_of_getElem? (i := 86) (by decide +kernel))) rfl
set_option maxRecDepth 20000 in
theorem tw_103 : Cond.fieldLink "CentrifugeUnit$Watch" 7 "CentrifugeUnit$Sensors" "used" "I" ∈ xw := xw_of (List.mem_append_right _ (List.mem_of_getElem? (i := 103) (by decide +kernel))) rfl
set_option maxRecDepth 20000 in
theorem tw_107 : Cond.fieldLink "CentrifugeUnit$Watch" 13 "CentrifugeUnit$Sensors" "lesser" "I" ∈ xw := xw_of (List.mem_append_right _ (List.mem_of_getElem? (i := 107) (by decide +kernel))) rfl
set_option maxRecDepth 20000 in
theorem tw_110 : Cond.lays "CentrifugeUnit$Sensors" "CentrifugeUnit$Sensors" "tachoTells" "I" ∈ xw := xw_of (List.mem_append_right _ (List.mem_of_getElem? (i := 110) (by decide +kernel))) rfl
set_option maxRecDepth 20000 in
theorem tw_112 : Cond.lays "CentrifugeUnit$Sensors" "CentrifugeUnit$Sensors" "commutatorTells" "I" ∈ xw := xw_of (List.mem_append_right _ (List.mem_of_getElem? (i := 112) (by decide +kernel))) rfl
set_option maxRecDepth 20000 in
theorem tw_114 : Cond.lays "CentrifugeUnit$Sensors" "CentrifugeUnit$Sensors" "tachoSpeed" "I" ∈ xw := xw_of (List.mem_append_right _ (List.mem_of_getElem? (i := 114) (by decide +kernel))) rfl
set_option maxRecDepth 20000 in
theorem tw_116 : Cond.lays "CentrifugeUnit$Sensors" "CentrifugeUnit$Sensors" "commutatorSpeed" "I" ∈ xw := xw_of (List.mem_append_right _ (List.mem_of_getElem? (i := 116) (by decide +kernel))) rfl
set_option maxRecDepth 20000 in
theorem tw_118 : Cond.lays "CentrifugeUnit$Sensors" "CentrifugeUnit$Sensors" "used" "I" ∈ xw := xw_of (List.mem_append_right _ (List.mem_of_getElem? (i := 118) (by decide +kernel))) rfl
set_option maxRecDepth 20000 in
theorem tw_120 : Cond.lays "CentrifugeUnit$Sensors" "CentrifugeUnit$Sensors" "lesser" "I" ∈ xw := xw_of (List.mem_append_right _ (List.mem_of_getElem? (i := 120) (by decide +kernel))) rfl
set_option maxRecDepth 20000 in
theorem tw_134 : Cond.lays "CentrifugeUnit$Lid" "CentrifugeUnit$Lid" "contactA" "Z" ∈ xw := xw_of (List.mem_append_right _ (List.mem_of_getElem? (i := 134) (by decide +kernel))) rfl
set_option maxRecDepth 20000 in
theorem tw_136 : Cond.lays "CentrifugeUnit$Lid" "CentrifugeUnit$Lid" "contactB" "Z" ∈ xw := xw_of (List.mem_append_right _ (List.mem_of_getElem? (i := 136) (by decide +kernel))) rfl
set_option maxRecDepth 20000 in
theorem tw_138 : Cond.lays "CentrifugeUnit$Lid" "CentrifugeUnit$Lid" "coilTicksLeft" "I" ∈ xw := xw_of (List.mem_append_right _ (List.mem_of_getElem? (i := 138) (by decide +kernel))) rfl
set_option maxRecDepth 20000 in
theorem tw_152 : Cond.laysFinal "CentrifugeUnit$Records" "CentrifugeUnit$Records" "reasons" "[I" ∈ xw := xw_of (List.mem_append_right _ (List.mem_of_getElem? (i := 152) (by decide +kernel))) rfl
set_option maxRecDepth 20000 in
theorem tw_154 : Cond.laysFinal "CentrifugeUnit$Records" "CentrifugeUnit$Records" "doses" "[J" ∈ xw := xw_of (List.mem_append_right _ (List.mem_of_getElem? (i := 154) (by decide +kernel))) rfl
set_option maxRecDepth 20000 in
theorem tw_156 : Cond.laysFinal "CentrifugeUnit$Records" "CentrifugeUnit$Records" "speeds" "[I" ∈ xw := xw_of (List.mem_append_right _ (List.mem_of_getElem? (i := 156) (by decide +kernel))) rfl
set_option maxRecDepth 20000 in
theorem tw_158 : Cond.lays "CentrifugeUnit$Records" "CentrifugeUnit$Records" "total" "I" ∈ xw := xw_of (List.mem_append_right _ (List.mem_of_getElem? (i := 158) (by decide +kernel))) rfl
set_option maxRecDepth 20000 in
theorem tw_174 : Cond.fieldLink "CentrifugeUnit$Watch" 21 "CentrifugeUnit$Watch" "shaking" "I" ∈ xw := xw_of (List.mem_append_right _ (List.mem_of_getElem? (i := 174) (by decide +kernel))) rfl
set_option maxRecDepth 20000 in
theorem tw_176 : Cond.fieldLink "CentrifugeUnit$Watch" 16 "CentrifugeUnit$Watch" "restRow" "I" ∈ xw := xw_of (List.mem_append_right _ (List.mem_of_getElem? (i := 176) (by decide +kernel))) rfl
set_option maxRecDepth 20000 in
theorem tw_177 : Cond.fieldLink "CentrifugeUnit$Watch" 24 "CentrifugeUnit$Watch" "shakingRow" "I" ∈ xw := xw_of (List.mem_append_right _ (List.mem_of_getElem? (i := 177) (by decide +kernel))) rfl
set_option maxRecDepth 20000 in
theorem tw_178 : Cond.fieldLink "CentrifugeUnit$Watch" 27 "CentrifugeUnit$Watch" "differingRow" "I" ∈ xw := xw_of (List.mem_append_right _ (List.mem_of_getElem? (i := 178) (by decide +kernel))) rfl
set_option maxRecDepth 20000 in
theorem tw_179 : Cond.lays "CentrifugeUnit$Watch" "CentrifugeUnit$Watch" "shaking" "I" ∈ xw := xw_of (List.mem_append_right _ (List.mem_of_getElem? (i := 179) (by decide +kernel))) rfl
set_option maxRecDepth 20000 in
theorem tw_181 : Cond.lays "CentrifugeUnit$Watch" "CentrifugeUnit$Watch" "restRow" "I" ∈ xw := xw_of (List.mem_append_right _ (List.mem_of_getElem? (i := 181) (by decide +kernel))) rfl
set_option maxRecDepth 20000 in
theorem tw_183 : Cond.lays "CentrifugeUnit$Watch" "CentrifugeUnit$Watch" "shakingRow" "I" ∈ xw := xw_of (List.mem_append_right _ (List.mem_of_getElem? (i := 183) (by decide +kernel))) rfl
set_option maxRecDepth 20000 in
theorem tw_185 : Cond.lays "CentrifugeUnit$Watch" "CentrifugeUnit$Watch" "differingRow" "I" ∈ xw := xw_of (List.mem_append_right _ (List.mem_of_getElem? (i := 185) (by decide +kernel))) rfl
set_option maxRecDepth 20000 in
theorem tw_214 : Cond.lays "CentrifugeUnit$Run" "CentrifugeUnit$Run" "dose" "J" ∈ xw := xw_of (List.mem_append_right _ (List.mem_of_getElem? (i := 214) (by decide +kernel))) rfl
set_option maxRecDepth 20000 in
theorem tw_216 : Cond.lays "CentrifugeUnit$Run" "CentrifugeUnit$Run" "turns" "J" ∈ xw := xw_of (List.mem_append_right _ (List.mem_of_getElem? (i := 216) (by decide +kernel))) rfl
set_option maxRecDepth 20000 in
theorem tw_218 : Cond.lays "CentrifugeUnit$Run" "CentrifugeUnit$Run" "rotorRead" "I" ∈ xw := xw_of (List.mem_append_right _ (List.mem_of_getElem? (i := 218) (by decide +kernel))) rfl
set_option maxRecDepth 20000 in
theorem tw_220 : Cond.lays "CentrifugeUnit$Run" "CentrifugeUnit$Run" "wrongPattern" "Z" ∈ xw := xw_of (List.mem_append_right _ (List.mem_of_getElem? (i := 220) (by decide +kernel))) rfl
set_option maxRecDepth 20000 in
theorem tw_222 : Cond.lays "CentrifugeUnit$Run" "CentrifugeUnit$Run" "greatest" "I" ∈ xw := xw_of (List.mem_append_right _ (List.mem_of_getElem? (i := 222) (by decide +kernel))) rfl
set_option maxRecDepth 20000 in
theorem tw_224 : Cond.lays "CentrifugeUnit$Run" "CentrifugeUnit$Run" "at" "I" ∈ xw := xw_of (List.mem_append_right _ (List.mem_of_getElem? (i := 224) (by decide +kernel))) rfl
set_option maxRecDepth 20000 in
theorem tw_226 : Cond.lays "CentrifugeUnit$Run" "CentrifugeUnit$Run" "ticksInSegment" "I" ∈ xw := xw_of (List.mem_append_right _ (List.mem_of_getElem? (i := 226) (by decide +kernel))) rfl
set_option maxRecDepth 20000 in
theorem tw_228 : Cond.lays "CentrifugeUnit$Run" "CentrifugeUnit$Run" "goal" "I" ∈ xw := xw_of (List.mem_append_right _ (List.mem_of_getElem? (i := 228) (by decide +kernel))) rfl
set_option maxRecDepth 20000 in
theorem tw_254 : Cond.laysFinal "CentrifugeUnit$Control" "CentrifugeUnit$Control" "rotors" "LCentrifugeUnit$Rotors;" ∈ xw := xw_of (List.mem_append_right _ (List.mem_of_getElem? (i := 254) (by decide +kernel))) rfl
set_option maxRecDepth 20000 in
theorem tw_256 : Cond.laysFinal "CentrifugeUnit$Control" "CentrifugeUnit$Control" "program" "LCentrifugeUnit$Program;" ∈ xw := xw_of (List.mem_append_right _ (List.mem_of_getElem? (i := 256) (by decide +kernel))) rfl
set_option maxRecDepth 20000 in
theorem tw_258 : Cond.laysFinal "CentrifugeUnit$Control" "CentrifugeUnit$Control" "sensors" "LCentrifugeUnit$Sensors;" ∈ xw := xw_of (List.mem_append_right _ (List.mem_of_getElem? (i := 258) (by decide +kernel))) rfl
set_option maxRecDepth 20000 in
theorem tw_260 : Cond.laysFinal "CentrifugeUnit$Control" "CentrifugeUnit$Control" "lid" "LCentrifugeUnit$Lid;" ∈ xw := xw_of (List.mem_append_right _ (List.mem_of_getElem? (i := 260) (by decide +kernel))) rfl
set_option maxRecDepth 20000 in
theorem tw_262 : Cond.laysFinal "CentrifugeUnit$Control" "CentrifugeUnit$Control" "records" "LCentrifugeUnit$Records;" ∈ xw := xw_of (List.mem_append_right _ (List.mem_of_getElem? (i := 262) (by decide +kernel))) rfl
set_option maxRecDepth 20000 in
theorem tw_264 : Cond.laysFinal "CentrifugeUnit$Control" "CentrifugeUnit$Control" "watch" "LCentrifugeUnit$Watch;" ∈ xw := xw_of (List.mem_append_right _ (List.mem_of_getElem? (i := 264) (by decide +kernel))) rfl
set_option maxRecDepth 20000 in
theorem tw_266 : Cond.laysFinal "CentrifugeUnit$Control" "CentrifugeUnit$Control" "run" "LCentrifugeUnit$Run;" ∈ xw := xw_of (List.mem_append_right _ (List.mem_of_getElem? (i := 266) (by decide +kernel))) rfl
set_option maxRecDepth 20000 in
theorem tw_268 : Cond.lays "CentrifugeUnit$Control" "CentrifugeUnit$Control" "powered" "Z" ∈ xw := xw_of (List.mem_append_right _ (List.mem_of_getElem? (i := 268) (by decide +kernel))) rfl
set_option maxRecDepth 20000 in
theorem tw_270 : Cond.lays "CentrifugeUnit$Control" "CentrifugeUnit$Control" "chamberCenti" "I" ∈ xw := xw_of (List.mem_append_right _ (List.mem_of_getElem? (i := 270) (by decide +kernel))) rfl
set_option maxRecDepth 20000 in
theorem tw_272 : Cond.lays "CentrifugeUnit$Control" "CentrifugeUnit$Control" "state" "I" ∈ xw := xw_of (List.mem_append_right _ (List.mem_of_getElem? (i := 272) (by decide +kernel))) rfl
set_option maxRecDepth 20000 in
theorem tw_274 : Cond.lays "CentrifugeUnit$Control" "CentrifugeUnit$Control" "reason" "I" ∈ xw := xw_of (List.mem_append_right _ (List.mem_of_getElem? (i := 274) (by decide +kernel))) rfl
set_option maxRecDepth 20000 in
theorem tw_276 : Cond.lays "CentrifugeUnit$Control" "CentrifugeUnit$Control" "drive" "I" ∈ xw := xw_of (List.mem_append_right _ (List.mem_of_getElem? (i := 276) (by decide +kernel))) rfl
set_option maxRecDepth 20000 in
theorem tw_278 : Cond.lays "CentrifugeUnit$Control" "CentrifugeUnit$Control" "brake" "I" ∈ xw := xw_of (List.mem_append_right _ (List.mem_of_getElem? (i := 278) (by decide +kernel))) rfl
set_option maxRecDepth 20000 in
theorem tw_280 : Cond.lays "CentrifugeUnit$Control" "CentrifugeUnit$Control" "coilFed" "Z" ∈ xw := xw_of (List.mem_append_right _ (List.mem_of_getElem? (i := 280) (by decide +kernel))) rfl
set_option maxRecDepth 20000 in
theorem tw_290 : Cond.laysFinal "CentrifugeUnit" "CentrifugeUnit" "rotors" "LCentrifugeUnit$Rotors;" ∈ xw := xw_of (List.mem_append_right _ (List.mem_of_getElem? (i := 290) (by decide +kernel))) rfl
set_option maxRecDepth 20000 in
theorem tw_292 : Cond.laysFinal "CentrifugeUnit" "CentrifugeUnit" "program" "LCentrifugeUnit$Program;" ∈ xw := xw_of (List.mem_append_right _ (List.mem_of_getElem? (i := 292) (by decide +kernel))) rfl
set_option maxRecDepth 20000 in
theorem tw_294 : Cond.laysFinal "CentrifugeUnit" "CentrifugeUnit" "model" "LCentrifugeUnit$Model;" ∈ xw := xw_of (List.mem_append_right _ (List.mem_of_getElem? (i := 294) (by decide +kernel))) rfl
set_option maxRecDepth 20000 in
theorem tw_296 : Cond.laysFinal "CentrifugeUnit" "CentrifugeUnit" "sensors" "LCentrifugeUnit$Sensors;" ∈ xw := xw_of (List.mem_append_right _ (List.mem_of_getElem? (i := 296) (by decide +kernel))) rfl
set_option maxRecDepth 20000 in
theorem tw_298 : Cond.laysFinal "CentrifugeUnit" "CentrifugeUnit" "lid" "LCentrifugeUnit$Lid;" ∈ xw := xw_of (List.mem_append_right _ (List.mem_of_getElem? (i := 298) (by decide +kernel))) rfl
set_option maxRecDepth 20000 in
theorem tw_300 : Cond.laysFinal "CentrifugeUnit" "CentrifugeUnit" "records" "LCentrifugeUnit$Records;" ∈ xw := xw_of (List.mem_append_right _ (List.mem_of_getElem? (i := 300) (by decide +kernel))) rfl
set_option maxRecDepth 20000 in
theorem tw_302 : Cond.laysFinal "CentrifugeUnit" "CentrifugeUnit" "control" "LCentrifugeUnit$Control;" ∈ xw := xw_of (List.mem_append_right _ (List.mem_of_getElem? (i := 302) (by decide +kernel))) rfl
set_option maxRecDepth 20000 in
theorem tw_326 : Cond.static ⟨"CentrifugeUnit", "within", "(III)Z"⟩ ∈ xw := xw_of (List.mem_append_right _ (List.mem_of_getElem? (i := 326) (by decide +kernel))) rfl
set_option maxRecDepth 20000 in
theorem tw_327 : Cond.code ⟨"CentrifugeUnit", "within", "(III)Z"⟩ prog_1_method_19_code 3 (Option.some Jvm.ClassFile.FieldType.boolean) ∈ xw := xw_of (List.mem_append_right _ (List.mem_of_getElem? (i := 327) (by decide +kernel))) rfl
set_option maxRecDepth 20000 in
theorem tw_824 : Cond.lays "CentrifugeUnitModel" "CentrifugeUnitModel" "thrown" "I" ∈ xw := xw_of (List.mem_append_right _ (List.mem_of_getElem? (i := 824) (by decide +kernel))) rfl
set_option maxRecDepth 20000 in
theorem tw_826 : Cond.laysFinal "CentrifugeUnitModel" "CentrifugeUnitModel" "told" "[Z" ∈ xw := xw_of (List.mem_append_right _ (List.mem_of_getElem? (i := 826) (by decide +kernel))) rfl
set_option maxRecDepth 20000 in
theorem tw_828 : Cond.laysFinal "CentrifugeUnitModel" "CentrifugeUnitModel" "pattern" "[I" ∈ xw := xw_of (List.mem_append_right _ (List.mem_of_getElem? (i := 828) (by decide +kernel))) rfl
set_option maxRecDepth 20000 in
theorem tw_830 : Cond.laysFinal "CentrifugeUnitModel" "CentrifugeUnitModel" "radius" "[I" ∈ xw := xw_of (List.mem_append_right _ (List.mem_of_getElem? (i := 830) (by decide +kernel))) rfl
set_option maxRecDepth 20000 in
theorem tw_832 : Cond.laysFinal "CentrifugeUnitModel" "CentrifugeUnitModel" "limit" "[I" ∈ xw := xw_of (List.mem_append_right _ (List.mem_of_getElem? (i := 832) (by decide +kernel))) rfl
set_option maxRecDepth 20000 in
theorem tw_834 : Cond.laysFinal "CentrifugeUnitModel" "CentrifugeUnitModel" "inertia" "[I" ∈ xw := xw_of (List.mem_append_right _ (List.mem_of_getElem? (i := 834) (by decide +kernel))) rfl
set_option maxRecDepth 20000 in
theorem tw_836 : Cond.lays "CentrifugeUnitModel" "CentrifugeUnitModel" "inside" "I" ∈ xw := xw_of (List.mem_append_right _ (List.mem_of_getElem? (i := 836) (by decide +kernel))) rfl
set_option maxRecDepth 20000 in
theorem tw_838 : Cond.laysFinal "CentrifugeUnitModel" "CentrifugeUnitModel" "kind" "[I" ∈ xw := xw_of (List.mem_append_right _ (List.mem_of_getElem? (i := 838) (by decide +kernel))) rfl
set_option maxRecDepth 20000 in
theorem tw_840 : Cond.laysFinal "CentrifugeUnitModel" "CentrifugeUnitModel" "goalOf" "[I" ∈ xw := xw_of (List.mem_append_right _ (List.mem_of_getElem? (i := 840) (by decide +kernel))) rfl
set_option maxRecDepth 20000 in
theorem tw_842 : Cond.laysFinal "CentrifugeUnitModel" "CentrifugeUnitModel" "slope" "[I" ∈ xw := xw_of (List.mem_append_right _ (List.mem_of_getElem? (i := 842) (by decide +kernel))) rfl
set_option maxRecDepth 20000 in
theorem tw_844 : Cond.lays "CentrifugeUnitModel" "CentrifugeUnitModel" "segments" "I" ∈ xw := xw_of (List.mem_append_right _ (List.mem_of_getElem? (i := 844) (by decide +kernel))) rfl
set_option maxRecDepth 20000 in
theorem tw_846 : Cond.lays "CentrifugeUnitModel" "CentrifugeUnitModel" "speed" "J" ∈ xw := xw_of (List.mem_append_right _ (List.mem_of_getElem? (i := 846) (by decide +kernel))) rfl
set_option maxRecDepth 20000 in
theorem tw_848 : Cond.lays "CentrifugeUnitModel" "CentrifugeUnitModel" "drive" "I" ∈ xw := xw_of (List.mem_append_right _ (List.mem_of_getElem? (i := 848) (by decide +kernel))) rfl
set_option maxRecDepth 20000 in
theorem tw_850 : Cond.lays "CentrifugeUnitModel" "CentrifugeUnitModel" "brake" "I" ∈ xw := xw_of (List.mem_append_right _ (List.mem_of_getElem? (i := 850) (by decide +kernel))) rfl
set_option maxRecDepth 20000 in
theorem tw_852 : Cond.lays "CentrifugeUnitModel" "CentrifugeUnitModel" "fed" "Z" ∈ xw := xw_of (List.mem_append_right _ (List.mem_of_getElem? (i := 852) (by decide +kernel))) rfl
set_option maxRecDepth 20000 in
theorem tw_854 : Cond.lays "CentrifugeUnitModel" "CentrifugeUnitModel" "coil" "I" ∈ xw := xw_of (List.mem_append_right _ (List.mem_of_getElem? (i := 854) (by decide +kernel))) rfl
set_option maxRecDepth 20000 in
theorem tw_856 : Cond.lays "CentrifugeUnitModel" "CentrifugeUnitModel" "tacho" "I" ∈ xw := xw_of (List.mem_append_right _ (List.mem_of_getElem? (i := 856) (by decide +kernel))) rfl
set_option maxRecDepth 20000 in
theorem tw_858 : Cond.lays "CentrifugeUnitModel" "CentrifugeUnitModel" "counter" "I" ∈ xw := xw_of (List.mem_append_right _ (List.mem_of_getElem? (i := 858) (by decide +kernel))) rfl
set_option maxRecDepth 20000 in
theorem tw_860 : Cond.lays "CentrifugeUnitModel" "CentrifugeUnitModel" "first" "J" ∈ xw := xw_of (List.mem_append_right _ (List.mem_of_getElem? (i := 860) (by decide +kernel))) rfl
set_option maxRecDepth 20000 in
theorem tw_862 : Cond.lays "CentrifugeUnitModel" "CentrifugeUnitModel" "second" "J" ∈ xw := xw_of (List.mem_append_right _ (List.mem_of_getElem? (i := 862) (by decide +kernel))) rfl
set_option maxRecDepth 20000 in
theorem tw_864 : Cond.lays "CentrifugeUnitModel" "CentrifugeUnitModel" "used" "J" ∈ xw := xw_of (List.mem_append_right _ (List.mem_of_getElem? (i := 864) (by decide +kernel))) rfl
set_option maxRecDepth 20000 in
theorem tw_866 : Cond.lays "CentrifugeUnitModel" "CentrifugeUnitModel" "power" "Z" ∈ xw := xw_of (List.mem_append_right _ (List.mem_of_getElem? (i := 866) (by decide +kernel))) rfl
set_option maxRecDepth 20000 in
theorem tw_868 : Cond.lays "CentrifugeUnitModel" "CentrifugeUnitModel" "state" "I" ∈ xw := xw_of (List.mem_append_right _ (List.mem_of_getElem? (i := 868) (by decide +kernel))) rfl
set_option maxRecDepth 20000 in
theorem tw_870 : Cond.lays "CentrifugeUnitModel" "CentrifugeUnitModel" "reason" "I" ∈ xw := xw_of (List.mem_append_right _ (List.mem_of_getElem? (i := 870) (by decide +kernel))) rfl
set_option maxRecDepth 20000 in
theorem tw_872 : Cond.lays "CentrifugeUnitModel" "CentrifugeUnitModel" "segment" "I" ∈ xw := xw_of (List.mem_append_right _ (List.mem_of_getElem? (i := 872) (by decide +kernel))) rfl
set_option maxRecDepth 20000 in
theorem tw_874 : Cond.lays "CentrifugeUnitModel" "CentrifugeUnitModel" "passed" "I" ∈ xw := xw_of (List.mem_append_right _ (List.mem_of_getElem? (i := 874) (by decide +kernel))) rfl
set_option maxRecDepth 20000 in
theorem tw_876 : Cond.lays "CentrifugeUnitModel" "CentrifugeUnitModel" "goal" "J" ∈ xw := xw_of (List.mem_append_right _ (List.mem_of_getElem? (i := 876) (by decide +kernel))) rfl
set_option maxRecDepth 20000 in
theorem tw_878 : Cond.lays "CentrifugeUnitModel" "CentrifugeUnitModel" "dose" "J" ∈ xw := xw_of (List.mem_append_right _ (List.mem_of_getElem? (i := 878) (by decide +kernel))) rfl
set_option maxRecDepth 20000 in
theorem tw_880 : Cond.lays "CentrifugeUnitModel" "CentrifugeUnitModel" "sum" "J" ∈ xw := xw_of (List.mem_append_right _ (List.mem_of_getElem? (i := 880) (by decide +kernel))) rfl
set_option maxRecDepth 20000 in
theorem tw_882 : Cond.lays "CentrifugeUnitModel" "CentrifugeUnitModel" "any" "Z" ∈ xw := xw_of (List.mem_append_right _ (List.mem_of_getElem? (i := 882) (by decide +kernel))) rfl
set_option maxRecDepth 20000 in
theorem tw_884 : Cond.lays "CentrifugeUnitModel" "CentrifugeUnitModel" "firstPattern" "I" ∈ xw := xw_of (List.mem_append_right _ (List.mem_of_getElem? (i := 884) (by decide +kernel))) rfl
set_option maxRecDepth 20000 in
theorem tw_886 : Cond.lays "CentrifugeUnitModel" "CentrifugeUnitModel" "rotor" "I" ∈ xw := xw_of (List.mem_append_right _ (List.mem_of_getElem? (i := 886) (by decide +kernel))) rfl
set_option maxRecDepth 20000 in
theorem tw_888 : Cond.lays "CentrifugeUnitModel" "CentrifugeUnitModel" "wrongPattern" "Z" ∈ xw := xw_of (List.mem_append_right _ (List.mem_of_getElem? (i := 888) (by decide +kernel))) rfl
set_option maxRecDepth 20000 in
theorem tw_890 : Cond.lays "CentrifugeUnitModel" "CentrifugeUnitModel" "resting" "I" ∈ xw := xw_of (List.mem_append_right _ (List.mem_of_getElem? (i := 890) (by decide +kernel))) rfl
set_option maxRecDepth 20000 in
theorem tw_892 : Cond.lays "CentrifugeUnitModel" "CentrifugeUnitModel" "shaking" "I" ∈ xw := xw_of (List.mem_append_right _ (List.mem_of_getElem? (i := 892) (by decide +kernel))) rfl
set_option maxRecDepth 20000 in
theorem tw_894 : Cond.lays "CentrifugeUnitModel" "CentrifugeUnitModel" "apart" "I" ∈ xw := xw_of (List.mem_append_right _ (List.mem_of_getElem? (i := 894) (by decide +kernel))) rfl
set_option maxRecDepth 20000 in
theorem tw_896 : Cond.lays "CentrifugeUnitModel" "CentrifugeUnitModel" "contactA" "Z" ∈ xw := xw_of (List.mem_append_right _ (List.mem_of_getElem? (i := 896) (by decide +kernel))) rfl
set_option maxRecDepth 20000 in
theorem tw_898 : Cond.lays "CentrifugeUnitModel" "CentrifugeUnitModel" "contactB" "Z" ∈ xw := xw_of (List.mem_append_right _ (List.mem_of_getElem? (i := 898) (by decide +kernel))) rfl
set_option maxRecDepth 20000 in
theorem tw_900 : Cond.lays "CentrifugeUnitModel" "CentrifugeUnitModel" "level" "I" ∈ xw := xw_of (List.mem_append_right _ (List.mem_of_getElem? (i := 900) (by decide +kernel))) rfl
set_option maxRecDepth 20000 in
theorem tw_902 : Cond.lays "CentrifugeUnitModel" "CentrifugeUnitModel" "chamber" "I" ∈ xw := xw_of (List.mem_append_right _ (List.mem_of_getElem? (i := 902) (by decide +kernel))) rfl
set_option maxRecDepth 20000 in
theorem tw_904 : Cond.lays "CentrifugeUnitModel" "CentrifugeUnitModel" "greatest" "J" ∈ xw := xw_of (List.mem_append_right _ (List.mem_of_getElem? (i := 904) (by decide +kernel))) rfl
set_option maxRecDepth 20000 in
theorem tw_906 : Cond.lays "CentrifugeUnitModel" "CentrifugeUnitModel" "records" "I" ∈ xw := xw_of (List.mem_append_right _ (List.mem_of_getElem? (i := 906) (by decide +kernel))) rfl
set_option maxRecDepth 20000 in
theorem tw_908 : Cond.laysFinal "CentrifugeUnitModel" "CentrifugeUnitModel" "reasonOf" "[J" ∈ xw := xw_of (List.mem_append_right _ (List.mem_of_getElem? (i := 908) (by decide +kernel))) rfl
set_option maxRecDepth 20000 in
theorem tw_910 : Cond.laysFinal "CentrifugeUnitModel" "CentrifugeUnitModel" "doseOf" "[J" ∈ xw := xw_of (List.mem_append_right _ (List.mem_of_getElem? (i := 910) (by decide +kernel))) rfl
set_option maxRecDepth 20000 in
theorem tw_912 : Cond.laysFinal "CentrifugeUnitModel" "CentrifugeUnitModel" "greatestOf" "[J" ∈ xw := xw_of (List.mem_append_right _ (List.mem_of_getElem? (i := 912) (by decide +kernel))) rfl
theorem xin0 : ∀ w ∈ u_ws "CentrifugeUnit$Control" xF0 14, w ∈ xw := List.forall_mem_cons.mpr ⟨tw_254, List.forall_mem_cons.mpr ⟨tw_256, List.forall_mem_cons.mpr ⟨tw_258, List.forall_mem_cons.mpr ⟨tw_260, List.forall_mem_cons.mpr ⟨tw_262, List.forall_mem_cons.mpr ⟨tw_264, List.forall_mem_cons.mpr ⟨tw_266, List.forall_mem_cons.mpr ⟨tw_268, List.forall_mem_cons.mpr ⟨tw_270, List.forall_mem_cons.mpr ⟨tw_272, List.forall_mem_cons.mpr ⟨tw_274, List.forall_mem_cons.mpr ⟨tw_276, List.forall_mem_cons.mpr ⟨tw_278, List.forall_mem_cons.mpr ⟨tw_280, fun _ h => absurd h List.not_mem_nil⟩⟩⟩⟩⟩⟩⟩⟩⟩⟩⟩⟩⟩⟩
theorem xin1 : ∀ w ∈ u_ws "CentrifugeUnit$Lid" xF1 3, w ∈ xw := List.forall_mem_cons.mpr ⟨tw_134, List.forall_mem_cons.mpr ⟨tw_136, List.forall_mem_cons.mpr ⟨tw_138, fun _ h => absurd h List.not_mem_nil⟩⟩⟩
theorem xin2 : ∀ w ∈ u_ws "CentrifugeUnit$Model" xF2 1, w ∈ xw := List.forall_mem_cons.mpr ⟨tw_86, fun _ h => absurd h List.not_mem_nil⟩
theorem xin3 : ∀ w ∈ u_ws "CentrifugeUnit$Program" xF3 4, w ∈ xw := List.forall_mem_cons.mpr ⟨tw_69, List.forall_mem_cons.mpr ⟨tw_71, List.forall_mem_cons.mpr ⟨tw_73, List.forall_mem_cons.mpr ⟨tw_75, fun _ h => absurd h List.not_mem_nil⟩⟩⟩⟩
theorem xin4 : ∀ w ∈ u_ws "CentrifugeUnit$Records" xF4 4, w ∈ xw := List.forall_mem_cons.mpr ⟨tw_152, List.forall_mem_cons.mpr ⟨tw_154, List.forall_mem_cons.mpr ⟨tw_156, List.forall_mem_cons.mpr ⟨tw_158, fun _ h => absurd h List.not_mem_nil⟩⟩⟩⟩
theorem xin5 : ∀ w ∈ u_ws "CentrifugeUnit$Rotors" xF5 5, w ∈ xw := List.forall_mem_cons.mpr ⟨tw_43, List.forall_mem_cons.mpr ⟨tw_45, List.forall_mem_cons.mpr ⟨tw_47, List.forall_mem_cons.mpr ⟨tw_49, List.forall_mem_cons.mpr ⟨tw_51, fun _ h => absurd h List.not_mem_nil⟩⟩⟩⟩⟩
theorem xin6 : ∀ w ∈ u_ws "CentrifugeUnit$Run" xF6 8, w ∈ xw := List.forall_mem_cons.mpr ⟨tw_214, List.forall_mem_cons.mpr ⟨tw_216, List.forall_mem_cons.mpr ⟨tw_218, List.forall_mem_cons.mpr ⟨tw_220, List.forall_mem_cons.mpr ⟨tw_222, List.forall_mem_cons.mpr ⟨tw_224, List.forall_mem_cons.mpr ⟨tw_226, List.forall_mem_cons.mpr ⟨tw_228, fun _ h => absurd h List.not_mem_nil⟩⟩⟩⟩⟩⟩⟩⟩
theorem xin7 : ∀ w ∈ u_ws "CentrifugeUnit$Sensors" xF7 6, w ∈ xw := List.forall_mem_cons.mpr ⟨tw_110, List.forall_mem_cons.mpr ⟨tw_112, List.forall_mem_cons.mpr ⟨tw_114, List.forall_mem_cons.mpr ⟨tw_116, List.forall_mem_cons.mpr ⟨tw_118, List.forall_mem_cons.mpr ⟨tw_120, fun _ h => absurd h List.not_mem_nil⟩⟩⟩⟩⟩⟩
theorem xin8 : ∀ w ∈ u_ws "CentrifugeUnit$Watch" xF8 4, w ∈ xw := List.forall_mem_cons.mpr ⟨tw_179, List.forall_mem_cons.mpr ⟨tw_181, List.forall_mem_cons.mpr ⟨tw_183, List.forall_mem_cons.mpr ⟨tw_185, fun _ h => absurd h List.not_mem_nil⟩⟩⟩⟩
theorem xin9 : ∀ w ∈ u_ws "CentrifugeUnit" xF9 7, w ∈ xw := List.forall_mem_cons.mpr ⟨tw_290, List.forall_mem_cons.mpr ⟨tw_292, List.forall_mem_cons.mpr ⟨tw_294, List.forall_mem_cons.mpr ⟨tw_296, List.forall_mem_cons.mpr ⟨tw_298, List.forall_mem_cons.mpr ⟨tw_300, List.forall_mem_cons.mpr ⟨tw_302, fun _ h => absurd h List.not_mem_nil⟩⟩⟩⟩⟩⟩⟩
theorem xin10 : ∀ w ∈ u_ws "CentrifugeUnitModel" xF10 45, w ∈ xw := List.forall_mem_cons.mpr ⟨tw_824, List.forall_mem_cons.mpr ⟨tw_826, List.forall_mem_cons.mpr ⟨tw_828, List.forall_mem_cons.mpr ⟨tw_830, List.forall_mem_cons.mpr ⟨tw_832, List.forall_mem_cons.mpr ⟨tw_834, List.forall_mem_cons.mpr ⟨tw_836, List.forall_mem_cons.mpr ⟨tw_838, List.forall_mem_cons.mpr ⟨tw_840, List.forall_mem_cons.mpr ⟨tw_842, List.forall_mem_cons.mpr ⟨tw_844, List.forall_mem_cons.mpr ⟨tw_846, List.forall_mem_cons.mpr ⟨tw_848, List.forall_mem_cons.mpr ⟨tw_850, List.forall_mem_cons.mpr ⟨tw_852, List.forall_mem_cons.mpr ⟨tw_854, List.forall_mem_cons.mpr ⟨tw_856, List.forall_mem_cons.mpr ⟨tw_858, List.forall_mem_cons.mpr ⟨tw_860, List.forall_mem_cons.mpr ⟨tw_862, List.forall_mem_cons.mpr ⟨tw_864, List.forall_mem_cons.mpr ⟨tw_866, List.forall_mem_cons.mpr ⟨tw_868, List.forall_mem_cons.mpr ⟨tw_870, List.forall_mem_cons.mpr ⟨tw_872, List.forall_mem_cons.mpr ⟨tw_874, List.forall_mem_cons.mpr ⟨tw_876, List.forall_mem_cons.mpr ⟨tw_878, List.forall_mem_cons.mpr ⟨tw_880, List.forall_mem_cons.mpr ⟨tw_882, List.forall_mem_cons.mpr ⟨tw_884, List.forall_mem_cons.mpr ⟨tw_886, List.forall_mem_cons.mpr ⟨tw_888, List.forall_mem_cons.mpr ⟨tw_890, List.forall_mem_cons.mpr ⟨tw_892, List.forall_mem_cons.mpr ⟨tw_894, List.forall_mem_cons.mpr ⟨tw_896, List.forall_mem_cons.mpr ⟨tw_898, List.forall_mem_cons.mpr ⟨tw_900, List.forall_mem_cons.mpr ⟨tw_902, List.forall_mem_cons.mpr ⟨tw_904, List.forall_mem_cons.mpr ⟨tw_906, List.forall_mem_cons.mpr ⟨tw_908, List.forall_mem_cons.mpr ⟨tw_910, List.forall_mem_cons.mpr ⟨tw_912, fun _ h => absurd h List.not_mem_nil⟩⟩⟩⟩⟩⟩⟩⟩⟩⟩⟩⟩⟩⟩⟩⟩⟩⟩⟩⟩⟩⟩⟩⟩⟩⟩⟩⟩⟩⟩⟩⟩⟩⟩⟩⟩⟩⟩⟩⟩⟩⟩⟩⟩⟩
end
section
abbrev bc_Watch_atRest : ByteArray := prog_10_method_4_code
def y_Watch_atRest : MethodName := ⟨"CentrifugeUnit$Watch", "atRest", "()Z"⟩
theorem d_Watch_atRest_0 : decode bc_Watch_atRest 0 = .ok (.aload_n 0, 1) := by decide +kernel
theorem d_Watch_atRest_1 : decode bc_Watch_atRest 1 = .ok (.getfield 16, 3) := by decide +kernel
theorem d_Watch_atRest_4 : decode bc_Watch_atRest 4 = .ok (.bipush 25, 2) := by decide +kernel
theorem d_Watch_atRest_6 : decode bc_Watch_atRest 6 = .ok (.if_icmp .lt 7, 3) := by decide +kernel
theorem d_Watch_atRest_9 : decode bc_Watch_atRest 9 = .ok (.iconst 1, 1) := by decide +kernel
theorem d_Watch_atRest_10 : decode bc_Watch_atRest 10 = .ok (.goto 4, 3) := by decide +kernel
theorem d_Watch_atRest_13 : decode bc_Watch_atRest 13 = .ok (.iconst 0, 1) := by decide +kernel
theorem d_Watch_atRest_14 : decode bc_Watch_atRest 14 = .ok (.ireturn, 1) := by decide +kernel
def F_Watch_atRest (M : XM) : Int32 := (if (M.1 20) < 25 then 0 else 1)
theorem f01_Watch_atRest (M : XM) : F_Watch_atRest M = 0 ∨ F_Watch_atRest M = 1 := by
  simp only [F_Watch_atRest]; repeat' split
  all_goals first | exact Or.inl rfl | exact Or.inr rfl | simp
set_option maxHeartbeats 4000000 in
set_option maxRecDepth 100000 in
theorem c_Watch_atRest (l : Launch) (dC : Nat → ClassId) (dI : Nat → Nat → Nat) (Z : Nat → ClassId) (A : Nat → Nat) (sz : Nat) (M : XM) : Met l y_Watch_atRest (.code y_Watch_atRest bc_Watch_atRest 1 (some .boolean) :: xw) ({ frames := 0, cells := 0, slots := 0, locals := 0 }) (va_Pc [.ref (A 18)] (xB (dC, dI) xcl (xty Z) sz [(A 18, xc18 Z A M)])) (k2_QcV (.int (F_Watch_atRest M))) 0 0 (fun _ => False) := by
  refine Met.ofW (cc := bc_Watch_atRest) (maxL := 1) (ret := (some .boolean)) (by decide) rfl ?_
  intro p e s m args below meth c s₁ B hml hv
  obtain ⟨rfl, hsz, hP, hK, hD0, hq⟩ := hv
  have hx := B.exec
  have hb := B.bytes
  have hr := B.returns
  have hts := atoms_spec (ws := (.code y_Watch_atRest bc_Watch_atRest 1 (some .boolean) :: xw)) B.pre
  have htt : ∀ w ∈ xw, w.before _ s = true := fun w h => hts w (List.mem_cons_of_mem _ h)
  have hown : s.vm.findClass "CentrifugeUnit$Watch" = some m.cls := findClass_of_methodNamed B.named
  have hlocks := B.notSynchronized
  subst hsz
  have hD : va_D (fun _ => True) [(A 18, .inr (8, [.int (M.1 19), .int (M.1 20), .int (M.1 21), .int (M.1 22)]))] := hD0
  have hP : va_P (dC, dI) xcl [(A 18, .inr (8, [.int (M.1 19), .int (M.1 20), .int (M.1 21), .int (M.1 22)]))] s.heap := hP
  have hl := lv_entry ([.ref (A 18)]) (n := 1) (Nat.le_of_ble_eq_true rfl)
  rw [lg_entry_eq]
  generalize (lg_sl ([.ref (A 18)]) ++ List.replicate (1 - (lg_sl ([.ref (A 18)])).length) Slot.unset).toArray = ls at hl ⊢
  have hl : lv_has ls 1 [(0, .ref (A 18))] := hl
  refine lv_aload_n hx hb d_Watch_atRest_0 rfl (lv_at hl 0 rfl) ?_
  refine va_get (D := (dC, dI)) (ci := 8) (v := .int (M.1 20)) (C := "CentrifugeUnit$Watch") (T := xF8) (N := 4) hx hb htt xin8 hown hK hP 0 rfl rfl 1 (by decide) (htt _ tw_176) (fun _ h9 => h9) rfl d_Watch_atRest_1 ?_
  refine lv_bipush (v := 25) hx hb d_Watch_atRest_4 (by decide) ?_
  refine lv_icmp_lt (tgt := 13) hx hb d_Watch_atRest_6 rfl (fun h1 => ?_) (fun h1 => ?_)
  · refine lv_iconst (v := 0) hx hb d_Watch_atRest_13 (by decide) ?_
    exact W.zret (ty := .boolean) hx hb hr rfl (fun t ht hW => ⟨(by rw [F_Watch_atRest, if_pos h1]), ht⟩) (fun _ h => absurd h List.not_mem_nil) d_Watch_atRest_14
  · refine lv_iconst (v := 1) hx hb d_Watch_atRest_9 (by decide) ?_
    refine lv_goto (tgt := 14) hx hb d_Watch_atRest_10 rfl ?_
    exact W.zret (ty := .boolean) hx hb hr rfl (fun t ht hW => ⟨(by rw [F_Watch_atRest, if_neg h1]), ht⟩) (fun _ h => absurd h List.not_mem_nil) d_Watch_atRest_14
abbrev bc_Watch_shakesTooLong : ByteArray := prog_10_method_5_code
def y_Watch_shakesTooLong : MethodName := ⟨"CentrifugeUnit$Watch", "shakesTooLong", "()Z"⟩
theorem d_Watch_shakesTooLong_0 : decode bc_Watch_shakesTooLong 0 = .ok (.aload_n 0, 1) := by decide +kernel
theorem d_Watch_shakesTooLong_1 : decode bc_Watch_shakesTooLong 1 = .ok (.getfield 24, 3) := by decide +kernel
theorem d_Watch_shakesTooLong_4 : decode bc_Watch_shakesTooLong 4 = .ok (.iconst 5, 1) := by decide +kernel
theorem d_Watch_shakesTooLong_5 : decode bc_Watch_shakesTooLong 5 = .ok (.if_icmp .lt 7, 3) := by decide +kernel
theorem d_Watch_shakesTooLong_8 : decode bc_Watch_shakesTooLong 8 = .ok (.iconst 1, 1) := by decide +kernel
theorem d_Watch_shakesTooLong_9 : decode bc_Watch_shakesTooLong 9 = .ok (.goto 4, 3) := by decide +kernel
theorem d_Watch_shakesTooLong_12 : decode bc_Watch_shakesTooLong 12 = .ok (.iconst 0, 1) := by decide +kernel
theorem d_Watch_shakesTooLong_13 : decode bc_Watch_shakesTooLong 13 = .ok (.ireturn, 1) := by decide +kernel
def F_Watch_shakesTooLong (M : XM) : Int32 := (if (M.1 21) < 5 then 0 else 1)
theorem f01_Watch_shakesTooLong (M : XM) : F_Watch_shakesTooLong M = 0 ∨ F_Watch_shakesTooLong M = 1 := by
  simp only [F_Watch_shakesTooLong]; repeat' split
  all_goals first | exact Or.inl rfl | exact Or.inr rfl | simp
set_option maxHeartbeats 4000000 in
set_option maxRecDepth 100000 in
theorem c_Watch_shakesTooLong (l : Launch) (dC : Nat → ClassId) (dI : Nat → Nat → Nat) (Z : Nat → ClassId) (A : Nat → Nat) (sz : Nat) (M : XM) : Met l y_Watch_shakesTooLong (.code y_Watch_shakesTooLong bc_Watch_shakesTooLong 1 (some .boolean) :: xw) ({ frames := 0, cells := 0, slots := 0, locals := 0 }) (va_Pc [.ref (A 18)] (xB (dC, dI) xcl (xty Z) sz [(A 18, xc18 Z A M)])) (k2_QcV (.int (F_Watch_shakesTooLong M))) 0 0 (fun _ => False) := by
  refine Met.ofW (cc := bc_Watch_shakesTooLong) (maxL := 1) (ret := (some .boolean)) (by decide) rfl ?_
  intro p e s m args below meth c s₁ B hml hv
  obtain ⟨rfl, hsz, hP, hK, hD0, hq⟩ := hv
  have hx := B.exec
  have hb := B.bytes
  have hr := B.returns
  have hts := atoms_spec (ws := (.code y_Watch_shakesTooLong bc_Watch_shakesTooLong 1 (some .boolean) :: xw)) B.pre
  have htt : ∀ w ∈ xw, w.before _ s = true := fun w h => hts w (List.mem_cons_of_mem _ h)
  have hown : s.vm.findClass "CentrifugeUnit$Watch" = some m.cls := findClass_of_methodNamed B.named
  have hlocks := B.notSynchronized
  subst hsz
  have hD : va_D (fun _ => True) [(A 18, .inr (8, [.int (M.1 19), .int (M.1 20), .int (M.1 21), .int (M.1 22)]))] := hD0
  have hP : va_P (dC, dI) xcl [(A 18, .inr (8, [.int (M.1 19), .int (M.1 20), .int (M.1 21), .int (M.1 22)]))] s.heap := hP
  have hl := lv_entry ([.ref (A 18)]) (n := 1) (Nat.le_of_ble_eq_true rfl)
  rw [lg_entry_eq]
  generalize (lg_sl ([.ref (A 18)]) ++ List.replicate (1 - (lg_sl ([.ref (A 18)])).length) Slot.unset).toArray = ls at hl ⊢
  have hl : lv_has ls 1 [(0, .ref (A 18))] := hl
  refine lv_aload_n hx hb d_Watch_shakesTooLong_0 rfl (lv_at hl 0 rfl) ?_
  refine va_get (D := (dC, dI)) (ci := 8) (v := .int (M.1 21)) (C := "CentrifugeUnit$Watch") (T := xF8) (N := 4) hx hb htt xin8 hown hK hP 0 rfl rfl 2 (by decide) (htt _ tw_177) (fun _ h9 => h9) rfl d_Watch_shakesTooLong_1 ?_
  refine lv_iconst (v := 5) hx hb d_Watch_shakesTooLong_4 (by decide) ?_
  refine lv_icmp_lt (tgt := 12) hx hb d_Watch_shakesTooLong_5 rfl (fun h1 => ?_) (fun h1 => ?_)
  · refine lv_iconst (v := 0) hx hb d_Watch_shakesTooLong_12 (by decide) ?_
    exact W.zret (ty := .boolean) hx hb hr rfl (fun t ht hW => ⟨(by rw [F_Watch_shakesTooLong, if_pos h1]), ht⟩) (fun _ h => absurd h List.not_mem_nil) d_Watch_shakesTooLong_13
  · refine lv_iconst (v := 1) hx hb d_Watch_shakesTooLong_8 (by decide) ?_
    refine lv_goto (tgt := 13) hx hb d_Watch_shakesTooLong_9 rfl ?_
    exact W.zret (ty := .boolean) hx hb hr rfl (fun t ht hW => ⟨(by rw [F_Watch_shakesTooLong, if_neg h1]), ht⟩) (fun _ h => absurd h List.not_mem_nil) d_Watch_shakesTooLong_13
abbrev bc_Watch_differsTooLong : ByteArray := prog_10_method_6_code
def y_Watch_differsTooLong : MethodName := ⟨"CentrifugeUnit$Watch", "differsTooLong", "()Z"⟩
theorem d_Watch_differsTooLong_0 : decode bc_Watch_differsTooLong 0 = .ok (.aload_n 0, 1) := by decide +kernel
theorem d_Watch_differsTooLong_1 : decode bc_Watch_differsTooLong 1 = .ok (.getfield 27, 3) := by decide +kernel
theorem d_Watch_differsTooLong_4 : decode bc_Watch_differsTooLong 4 = .ok (.bipush 10, 2) := by decide +kernel
theorem d_Watch_differsTooLong_6 : decode bc_Watch_differsTooLong 6 = .ok (.if_icmp .lt 7, 3) := by decide +kernel
theorem d_Watch_differsTooLong_9 : decode bc_Watch_differsTooLong 9 = .ok (.iconst 1, 1) := by decide +kernel
theorem d_Watch_differsTooLong_10 : decode bc_Watch_differsTooLong 10 = .ok (.goto 4, 3) := by decide +kernel
theorem d_Watch_differsTooLong_13 : decode bc_Watch_differsTooLong 13 = .ok (.iconst 0, 1) := by decide +kernel
theorem d_Watch_differsTooLong_14 : decode bc_Watch_differsTooLong 14 = .ok (.ireturn, 1) := by decide +kernel
def F_Watch_differsTooLong (M : XM) : Int32 := (if (M.1 22) < 10 then 0 else 1)
theorem f01_Watch_differsTooLong (M : XM) : F_Watch_differsTooLong M = 0 ∨ F_Watch_differsTooLong M = 1 := by
  simp only [F_Watch_differsTooLong]; repeat' split
  all_goals first | exact Or.inl rfl | exact Or.inr rfl | simp
set_option maxHeartbeats 4000000 in
set_option maxRecDepth 100000 in
theorem c_Watch_differsTooLong (l : Launch) (dC : Nat → ClassId) (dI : Nat → Nat → Nat) (Z : Nat → ClassId) (A : Nat → Nat) (sz : Nat) (M : XM) : Met l y_Watch_differsTooLong (.code y_Watch_differsTooLong bc_Watch_differsTooLong 1 (some .boolean) :: xw) ({ frames := 0, cells := 0, slots := 0, locals := 0 }) (va_Pc [.ref (A 18)] (xB (dC, dI) xcl (xty Z) sz [(A 18, xc18 Z A M)])) (k2_QcV (.int (F_Watch_differsTooLong M))) 0 0 (fun _ => False) := by
  refine Met.ofW (cc := bc_Watch_differsTooLong) (maxL := 1) (ret := (some .boolean)) (by decide) rfl ?_
  intro p e s m args below meth c s₁ B hml hv
  obtain ⟨rfl, hsz, hP, hK, hD0, hq⟩ := hv
  have hx := B.exec
  have hb := B.bytes
  have hr := B.returns
  have hts := atoms_spec (ws := (.code y_Watch_differsTooLong bc_Watch_differsTooLong 1 (some .boolean) :: xw)) B.pre
  have htt : ∀ w ∈ xw, w.before _ s = true := fun w h => hts w (List.mem_cons_of_mem _ h)
  have hown : s.vm.findClass "CentrifugeUnit$Watch" = some m.cls := findClass_of_methodNamed B.named
  have hlocks := B.notSynchronized
  subst hsz
  have hD : va_D (fun _ => True) [(A 18, .inr (8, [.int (M.1 19), .int (M.1 20), .int (M.1 21), .int (M.1 22)]))] := hD0
  have hP : va_P (dC, dI) xcl [(A 18, .inr (8, [.int (M.1 19), .int (M.1 20), .int (M.1 21), .int (M.1 22)]))] s.heap := hP
  have hl := lv_entry ([.ref (A 18)]) (n := 1) (Nat.le_of_ble_eq_true rfl)
  rw [lg_entry_eq]
  generalize (lg_sl ([.ref (A 18)]) ++ List.replicate (1 - (lg_sl ([.ref (A 18)])).length) Slot.unset).toArray = ls at hl ⊢
  have hl : lv_has ls 1 [(0, .ref (A 18))] := hl
  refine lv_aload_n hx hb d_Watch_differsTooLong_0 rfl (lv_at hl 0 rfl) ?_
  refine va_get (D := (dC, dI)) (ci := 8) (v := .int (M.1 22)) (C := "CentrifugeUnit$Watch") (T := xF8) (N := 4) hx hb htt xin8 hown hK hP 0 rfl rfl 3 (by decide) (htt _ tw_178) (fun _ h9 => h9) rfl d_Watch_differsTooLong_1 ?_
  refine lv_bipush (v := 10) hx hb d_Watch_differsTooLong_4 (by decide) ?_
  refine lv_icmp_lt (tgt := 13) hx hb d_Watch_differsTooLong_6 rfl (fun h1 => ?_) (fun h1 => ?_)
  · refine lv_iconst (v := 0) hx hb d_Watch_differsTooLong_13 (by decide) ?_
    exact W.zret (ty := .boolean) hx hb hr rfl (fun t ht hW => ⟨(by rw [F_Watch_differsTooLong, if_pos h1]), ht⟩) (fun _ h => absurd h List.not_mem_nil) d_Watch_differsTooLong_14
  · refine lv_iconst (v := 1) hx hb d_Watch_differsTooLong_9 (by decide) ?_
    refine lv_goto (tgt := 14) hx hb d_Watch_differsTooLong_10 rfl ?_
    exact W.zret (ty := .boolean) hx hb hr rfl (fun t ht hW => ⟨(by rw [F_Watch_differsTooLong, if_neg h1]), ht⟩) (fun _ h => absurd h List.not_mem_nil) d_Watch_differsTooLong_14
abbrev bc_Watch_forget : ByteArray := prog_10_method_3_code
def y_Watch_forget : MethodName := ⟨"CentrifugeUnit$Watch", "forget", "()V"⟩
theorem d_Watch_forget_0 : decode bc_Watch_forget 0 = .ok (.aload_n 0, 1) := by decide +kernel
theorem d_Watch_forget_1 : decode bc_Watch_forget 1 = .ok (.iconst 0, 1) := by decide +kernel
theorem d_Watch_forget_2 : decode bc_Watch_forget 2 = .ok (.putfield 16, 3) := by decide +kernel
theorem d_Watch_forget_5 : decode bc_Watch_forget 5 = .ok (.aload_n 0, 1) := by decide +kernel
theorem d_Watch_forget_6 : decode bc_Watch_forget 6 = .ok (.iconst 0, 1) := by decide +kernel
theorem d_Watch_forget_7 : decode bc_Watch_forget 7 = .ok (.putfield 24, 3) := by decide +kernel
theorem d_Watch_forget_10 : decode bc_Watch_forget 10 = .ok (.aload_n 0, 1) := by decide +kernel
theorem d_Watch_forget_11 : decode bc_Watch_forget 11 = .ok (.iconst 0, 1) := by decide +kernel
theorem d_Watch_forget_12 : decode bc_Watch_forget 12 = .ok (.putfield 27, 3) := by decide +kernel
theorem d_Watch_forget_15 : decode bc_Watch_forget 15 = .ok (.return_, 1) := by decide +kernel
abbrev ap_Watch_forget (M : XM) (u : (Int32 × Int32 × Int32)) : XM := ((va_up (va_up (va_up M.1 20 (u.1)) 21 (u.2.1)) 22 (u.2.2)), M.2)
def F_Watch_forget (M : XM) : (Int32 × Int32 × Int32) := (0, 0, 0)
set_option maxHeartbeats 4000000 in
set_option maxRecDepth 100000 in
theorem c_Watch_forget (l : Launch) (dC : Nat → ClassId) (dI : Nat → Nat → Nat) (Z : Nat → ClassId) (A : Nat → Nat) (sz : Nat) (M : XM) : Met l y_Watch_forget (.code y_Watch_forget bc_Watch_forget 1 none :: xw) ({ frames := 0, cells := 0, slots := 0, locals := 0 }) (va_Pc [.ref (A 18)] (xB (dC, dI) xcl (xty Z) sz [(A 18, xc18 Z A M)])) (va_Qv (fun u : (Int32 × Int32 × Int32) => u = F_Watch_forget M) (fun u => xE (dC, dI) xcl (xty Z) (va_A [(A 18, xc18 Z A M)] sz) [(A 18, xc18 Z A (ap_Watch_forget M u))]) (va_A [(A 18, xc18 Z A M)] sz)) 0 0 (va_A [(A 18, xc18 Z A M)] sz) := by
  refine Met.ofW (cc := bc_Watch_forget) (maxL := 1) (ret := none) (by decide) rfl ?_
  intro p e s m args below meth c s₁ B hml hv
  obtain ⟨rfl, hsz, hP, hK, hD0, hq⟩ := hv
  have hx := B.exec
  have hb := B.bytes
  have hr := B.returns
  have hts := atoms_spec (ws := (.code y_Watch_forget bc_Watch_forget 1 none :: xw)) B.pre
  have htt : ∀ w ∈ xw, w.before _ s = true := fun w h => hts w (List.mem_cons_of_mem _ h)
  have hown : s.vm.findClass "CentrifugeUnit$Watch" = some m.cls := findClass_of_methodNamed B.named
  have hlocks := B.notSynchronized
  subst hsz
  have hD := hD0.self (sz := s.heap.size)
  generalize hAe : va_A [(A 18, xc18 Z A M)] s.heap.size = AA at hD ⊢
  have hA : ∀ q : Nat, s.heap.size ≤ q → AA q := fun q h => by rw [← hAe]; exact Or.inr h
  have hS : va_S AA s.heap s.heap [] := va_S.rf
  have hP : va_P (dC, dI) xcl [(A 18, .inr (8, [.int (M.1 19), .int (M.1 20), .int (M.1 21), .int (M.1 22)]))] s.heap := hP
  have hD : va_D AA [(A 18, .inr (8, [.int (M.1 19), .int (M.1 20), .int (M.1 21), .int (M.1 22)]))] := hD
  have hl := lv_entry ([.ref (A 18)]) (n := 1) (Nat.le_of_ble_eq_true rfl)
  rw [lg_entry_eq]
  generalize (lg_sl ([.ref (A 18)]) ++ List.replicate (1 - (lg_sl ([.ref (A 18)])).length) Slot.unset).toArray = ls at hl ⊢
  have hl : lv_has ls 1 [(0, .ref (A 18))] := hl
  refine lv_aload_n hx hb d_Watch_forget_0 rfl (lv_at hl 0 rfl) ?_
  refine lv_iconst (v := 0) hx hb d_Watch_forget_1 (by decide) ?_
  refine va_put (D := (dC, dI)) (ci := 8) (v := .int 0) (ty := .int) (C := "CentrifugeUnit$Watch") (T := xF8) (N := 4) hx hb htt xin8 xT8 xTo8 xNm8 hown hK hP hD hS 0 rfl rfl 1 (by decide) (htt _ tw_176) (fun _ h9 => h9) rfl (by decide +kernel) rfl rfl (Nat.le_of_ble_eq_true rfl) d_Watch_forget_2 (fun H locs hP hD hS => ?_)
  have hP : va_P (dC, dI) xcl [(A 18, .inr (8, [.int (M.1 19), .int 0, .int (M.1 21), .int (M.1 22)]))] H := hP
  have hD : va_D AA [(A 18, .inr (8, [.int (M.1 19), .int 0, .int (M.1 21), .int (M.1 22)]))] := hD
  refine lv_aload_n hx hb d_Watch_forget_5 rfl (lv_at hl 0 rfl) ?_
  refine lv_iconst (v := 0) hx hb d_Watch_forget_6 (by decide) ?_
  refine va_put (D := (dC, dI)) (ci := 8) (v := .int 0) (ty := .int) (C := "CentrifugeUnit$Watch") (T := xF8) (N := 4) hx hb htt xin8 xT8 xTo8 xNm8 hown hK hP hD hS 0 rfl rfl 2 (by decide) (htt _ tw_177) (fun _ h9 => h9) rfl (by decide +kernel) rfl rfl (Nat.le_of_ble_eq_true rfl) d_Watch_forget_7 (fun H locs hP hD hS => ?_)
  have hP : va_P (dC, dI) xcl [(A 18, .inr (8, [.int (M.1 19), .int 0, .int 0, .int (M.1 22)]))] H := hP
  have hD : va_D AA [(A 18, .inr (8, [.int (M.1 19), .int 0, .int 0, .int (M.1 22)]))] := hD
  refine lv_aload_n hx hb d_Watch_forget_10 rfl (lv_at hl 0 rfl) ?_
  refine lv_iconst (v := 0) hx hb d_Watch_forget_11 (by decide) ?_
  refine va_put (D := (dC, dI)) (ci := 8) (v := .int 0) (ty := .int) (C := "CentrifugeUnit$Watch") (T := xF8) (N := 4) hx hb htt xin8 xT8 xTo8 xNm8 hown hK hP hD hS 0 rfl rfl 3 (by decide) (htt _ tw_178) (fun _ h9 => h9) rfl (by decide +kernel) rfl rfl (Nat.le_of_ble_eq_true rfl) d_Watch_forget_12 (fun H locs hP hD hS => ?_)
  have hP : va_P (dC, dI) xcl [(A 18, .inr (8, [.int (M.1 19), .int 0, .int 0, .int 0]))] H := hP
  have hD : va_D AA [(A 18, .inr (8, [.int (M.1 19), .int 0, .int 0, .int 0]))] := hD
  have hP9 := hP.sub (ws' := [(A 18, xc18 Z A (ap_Watch_forget M (0, 0, 0)))]) [0] rfl
  have hD9 := hD.sub (ws' := [(A 18, xc18 Z A (ap_Watch_forget M (0, 0, 0)))]) [0] (by decide) rfl
  exact W.vret hx hb hr (fun t ht hW => ⟨⟨(0, 0, 0), rfl, (by rw [F_Watch_forget]), xE_at hP9 hK hD9 ht hW⟩, hS.F ht⟩) hS.2.2 d_Watch_forget_15
abbrev bc_Watch_count : ByteArray := prog_10_method_2_code
def y_Watch_count : MethodName := ⟨"CentrifugeUnit$Watch", "count", "(LCentrifugeUnit$Sensors;)V"⟩
theorem d_Watch_count_0 : decode bc_Watch_count 0 = .ok (.aload_n 1, 1) := by decide +kernel
theorem d_Watch_count_1 : decode bc_Watch_count 1 = .ok (.getfield 7, 3) := by decide +kernel
theorem d_Watch_count_4 : decode bc_Watch_count 4 = .ok (.istore_n 2, 1) := by decide +kernel
theorem d_Watch_count_5 : decode bc_Watch_count 5 = .ok (.iload_n 2, 1) := by decide +kernel
theorem d_Watch_count_6 : decode bc_Watch_count 6 = .ok (.aload_n 1, 1) := by decide +kernel
theorem d_Watch_count_7 : decode bc_Watch_count 7 = .ok (.getfield 13, 3) := by decide +kernel
theorem d_Watch_count_10 : decode bc_Watch_count 10 = .ok (.isub, 1) := by decide +kernel
theorem d_Watch_count_11 : decode bc_Watch_count 11 = .ok (.istore_n 3, 1) := by decide +kernel
theorem d_Watch_count_12 : decode bc_Watch_count 12 = .ok (.aload_n 0, 1) := by decide +kernel
theorem d_Watch_count_13 : decode bc_Watch_count 13 = .ok (.iload_n 2, 1) := by decide +kernel
theorem d_Watch_count_14 : decode bc_Watch_count 14 = .ok (.ifCond .ne 12, 3) := by decide +kernel
theorem d_Watch_count_17 : decode bc_Watch_count 17 = .ok (.aload_n 0, 1) := by decide +kernel
theorem d_Watch_count_18 : decode bc_Watch_count 18 = .ok (.getfield 16, 3) := by decide +kernel
theorem d_Watch_count_21 : decode bc_Watch_count 21 = .ok (.iconst 1, 1) := by decide +kernel
theorem d_Watch_count_22 : decode bc_Watch_count 22 = .ok (.iadd, 1) := by decide +kernel
theorem d_Watch_count_23 : decode bc_Watch_count 23 = .ok (.goto 4, 3) := by decide +kernel
theorem d_Watch_count_26 : decode bc_Watch_count 26 = .ok (.iconst 0, 1) := by decide +kernel
theorem d_Watch_count_27 : decode bc_Watch_count 27 = .ok (.putfield 16, 3) := by decide +kernel
theorem d_Watch_count_30 : decode bc_Watch_count 30 = .ok (.aload_n 0, 1) := by decide +kernel
theorem d_Watch_count_31 : decode bc_Watch_count 31 = .ok (.aload_n 0, 1) := by decide +kernel
theorem d_Watch_count_32 : decode bc_Watch_count 32 = .ok (.getfield 21, 3) := by decide +kernel
theorem d_Watch_count_35 : decode bc_Watch_count 35 = .ok (.sipush 200, 3) := by decide +kernel
theorem d_Watch_count_38 : decode bc_Watch_count 38 = .ok (.iload_n 2, 1) := by decide +kernel
theorem d_Watch_count_39 : decode bc_Watch_count 39 = .ok (.bipush 20, 2) := by decide +kernel
theorem d_Watch_count_41 : decode bc_Watch_count 41 = .ok (.idiv, 1) := by decide +kernel
theorem d_Watch_count_42 : decode bc_Watch_count 42 = .ok (.iadd, 1) := by decide +kernel
theorem d_Watch_count_43 : decode bc_Watch_count 43 = .ok (.if_icmp .le 12, 3) := by decide +kernel
theorem d_Watch_count_46 : decode bc_Watch_count 46 = .ok (.aload_n 0, 1) := by decide +kernel
theorem d_Watch_count_47 : decode bc_Watch_count 47 = .ok (.getfield 24, 3) := by decide +kernel
theorem d_Watch_count_50 : decode bc_Watch_count 50 = .ok (.iconst 1, 1) := by decide +kernel
theorem d_Watch_count_51 : decode bc_Watch_count 51 = .ok (.iadd, 1) := by decide +kernel
theorem d_Watch_count_52 : decode bc_Watch_count 52 = .ok (.goto 4, 3) := by decide +kernel
theorem d_Watch_count_55 : decode bc_Watch_count 55 = .ok (.iconst 0, 1) := by decide +kernel
theorem d_Watch_count_56 : decode bc_Watch_count 56 = .ok (.putfield 24, 3) := by decide +kernel
theorem d_Watch_count_59 : decode bc_Watch_count 59 = .ok (.aload_n 0, 1) := by decide +kernel
theorem d_Watch_count_60 : decode bc_Watch_count 60 = .ok (.iload_n 3, 1) := by decide +kernel
theorem d_Watch_count_61 : decode bc_Watch_count 61 = .ok (.bipush 100, 2) := by decide +kernel
theorem d_Watch_count_63 : decode bc_Watch_count 63 = .ok (.iload_n 2, 1) := by decide +kernel
theorem d_Watch_count_64 : decode bc_Watch_count 64 = .ok (.bipush 10, 2) := by decide +kernel
theorem d_Watch_count_66 : decode bc_Watch_count 66 = .ok (.idiv, 1) := by decide +kernel
theorem d_Watch_count_67 : decode bc_Watch_count 67 = .ok (.iadd, 1) := by decide +kernel
theorem d_Watch_count_68 : decode bc_Watch_count 68 = .ok (.if_icmp .le 12, 3) := by decide +kernel
theorem d_Watch_count_71 : decode bc_Watch_count 71 = .ok (.aload_n 0, 1) := by decide +kernel
theorem d_Watch_count_72 : decode bc_Watch_count 72 = .ok (.getfield 27, 3) := by decide +kernel
theorem d_Watch_count_75 : decode bc_Watch_count 75 = .ok (.iconst 1, 1) := by decide +kernel
theorem d_Watch_count_76 : decode bc_Watch_count 76 = .ok (.iadd, 1) := by decide +kernel
theorem d_Watch_count_77 : decode bc_Watch_count 77 = .ok (.goto 4, 3) := by decide +kernel
theorem d_Watch_count_80 : decode bc_Watch_count 80 = .ok (.iconst 0, 1) := by decide +kernel
theorem d_Watch_count_81 : decode bc_Watch_count 81 = .ok (.putfield 27, 3) := by decide +kernel
theorem d_Watch_count_84 : decode bc_Watch_count 84 = .ok (.return_, 1) := by decide +kernel
abbrev ap_Watch_count (M : XM) (u : (Int32 × Int32 × Int32)) : XM := ((va_up (va_up (va_up M.1 20 (u.1)) 21 (u.2.1)) 22 (u.2.2)), M.2)
def F_Watch_count_k12 (M : XM) (j1 : Int32) (j5 : Int32) (j9 : Int32) : (Int32 × Int32 × Int32) := (j1, j5, j9)
def J_Watch_count_11 (M : XM) (j1 : Int32) (j5 : Int32) : Int32 := (if ((M.1 6) - (M.1 7)) ≤ (100 + ((M.1 6) / 10)) then 0 else ((M.1 22) + 1))
def F_Watch_count_k8 (M : XM) (j1 : Int32) (j5 : Int32) : (Int32 × Int32 × Int32) := (F_Watch_count_k12 M j1 j5 (J_Watch_count_11 M j1 j5))
def J_Watch_count_7 (M : XM) (j1 : Int32) : Int32 := (if (M.1 19) ≤ (200 + ((M.1 6) / 20)) then 0 else ((M.1 21) + 1))
def F_Watch_count_k4 (M : XM) (j1 : Int32) : (Int32 × Int32 × Int32) := (F_Watch_count_k8 M j1 (J_Watch_count_7 M j1))
def J_Watch_count_3 (M : XM) : Int32 := (if (M.1 6) = 0 then ((M.1 20) + 1) else 0)
def F_Watch_count (M : XM) : (Int32 × Int32 × Int32) := (F_Watch_count_k4 M (J_Watch_count_3 M))
set_option maxHeartbeats 4000000 in
set_option maxRecDepth 100000 in
theorem c_Watch_count (l : Launch) (dC : Nat → ClassId) (dI : Nat → Nat → Nat) (Z : Nat → ClassId) (A : Nat → Nat) (sz : Nat) (M : XM) : Met l y_Watch_count (.code y_Watch_count bc_Watch_count 4 none :: xw) ({ frames := 0, cells := 0, slots := 0, locals := 0 }) (va_Pc [.ref (A 18), .ref (A 11)] (xB (dC, dI) xcl (xty Z) sz [(A 18, xc18 Z A M), (A 11, xc11 Z A M)])) (va_Qv (fun u : (Int32 × Int32 × Int32) => u = F_Watch_count M) (fun u => xE (dC, dI) xcl (xty Z) (va_A [(A 18, xc18 Z A M), (A 11, xc11 Z A M)] sz) [(A 18, xc18 Z A (ap_Watch_count M u)), (A 11, xc11 Z A (ap_Watch_count M u))]) (va_A [(A 18, xc18 Z A M), (A 11, xc11 Z A M)] sz)) 0 0 (va_A [(A 18, xc18 Z A M), (A 11, xc11 Z A M)] sz) := by
  refine Met.ofW (cc := bc_Watch_count) (maxL := 4) (ret := none) (by decide) rfl ?_
  intro p e s m args below meth c s₁ B hml hv
  obtain ⟨rfl, hsz, hP, hK, hD0, hq⟩ := hv
  have hx := B.exec
  have hb := B.bytes
  have hr := B.returns
  have hts := atoms_spec (ws := (.code y_Watch_count bc_Watch_count 4 none :: xw)) B.pre
  have htt : ∀ w ∈ xw, w.before _ s = true := fun w h => hts w (List.mem_cons_of_mem _ h)
  have hown : s.vm.findClass "CentrifugeUnit$Watch" = some m.cls := findClass_of_methodNamed B.named
  have hlocks := B.notSynchronized
  subst hsz
  have hD := hD0.self (sz := s.heap.size)
  generalize hAe : va_A [(A 18, xc18 Z A M), (A 11, xc11 Z A M)] s.heap.size = AA at hD ⊢
  have hA : ∀ q : Nat, s.heap.size ≤ q → AA q := fun q h => by rw [← hAe]; exact Or.inr h
  have hS : va_S AA s.heap s.heap [] := va_S.rf
  have hP : va_P (dC, dI) xcl [(A 18, .inr (8, [.int (M.1 19), .int (M.1 20), .int (M.1 21), .int (M.1 22)])), (A 11, .inr (7, [.int (M.1 2), .int (M.1 3), .int (M.1 4), .int (M.1 5), .int (M.1 6), .int (M.1 7)]))] s.heap := hP
  have hD : va_D AA [(A 18, .inr (8, [.int (M.1 19), .int (M.1 20), .int (M.1 21), .int (M.1 22)])), (A 11, .inr (7, [.int (M.1 2), .int (M.1 3), .int (M.1 4), .int (M.1 5), .int (M.1 6), .int (M.1 7)]))] := hD
  have hl := lv_entry ([.ref (A 18), .ref (A 11)]) (n := 4) (Nat.le_of_ble_eq_true rfl)
  rw [lg_entry_eq]
  generalize (lg_sl ([.ref (A 18), .ref (A 11)]) ++ List.replicate (4 - (lg_sl ([.ref (A 18), .ref (A 11)])).length) Slot.unset).toArray = ls at hl ⊢
  have hl : lv_has ls 4 [(0, .ref (A 18)), (1, .ref (A 11))] := hl
  refine lv_aload_n hx hb d_Watch_count_0 rfl (lv_at hl 1 rfl) ?_
  refine va_get (D := (dC, dI)) (ci := 7) (v := .int (M.1 6)) (C := "CentrifugeUnit$Sensors") (T := xF7) (N := 6) hx hb htt xin7 hown hK hP 1 rfl rfl 4 (by decide) (htt _ tw_103) (fun _ h9 => h9) rfl d_Watch_count_1 ?_
  refine lv_istore_n (lv' := [(2, .int (M.1 6)), (0, .ref (A 18)), (1, .ref (A 11))]) hx hb d_Watch_count_4 rfl hl (by decide) rfl (fun ls hl => ?_)
  refine lv_iload_n hx hb d_Watch_count_5 rfl (lv_at hl 0 rfl) ?_
  refine lv_aload_n hx hb d_Watch_count_6 rfl (lv_at hl 2 rfl) ?_
  refine va_get (D := (dC, dI)) (ci := 7) (v := .int (M.1 7)) (C := "CentrifugeUnit$Sensors") (T := xF7) (N := 6) hx hb htt xin7 hown hK hP 1 rfl rfl 5 (by decide) (htt _ tw_107) (fun _ h9 => h9) rfl d_Watch_count_7 ?_
  refine lv_isub hx hb d_Watch_count_10 ?_
  refine lv_istore_n (lv' := [(3, .int ((M.1 6) - (M.1 7))), (2, .int (M.1 6)), (0, .ref (A 18)), (1, .ref (A 11))]) hx hb d_Watch_count_11 rfl hl (by decide) rfl (fun ls hl => ?_)
  refine lv_aload_n hx hb d_Watch_count_12 rfl (lv_at hl 2 rfl) ?_
  refine lv_iload_n hx hb d_Watch_count_13 rfl (lv_at hl 1 rfl) ?_
  refine xj_p 4 27 (fun q9 : Int32 => [(3, .int ((M.1 6) - (M.1 7))), (2, .int (M.1 6)), (0, .ref (A 18)), (1, .ref (A 11))]) (fun q9 : Int32 => [.int q9, .ref (A 18)]) (fun q9 : Int32 => q9 = J_Watch_count_3 M) (fun hJ2 => ?_) (fun ls j1 hl hj1 => ?_)
  · refine lv_if_ne (tgt := 26) hx hb d_Watch_count_14 rfl (fun h15 => ?_) (fun h15 => ?_)
    · refine lv_iconst (v := 0) hx hb d_Watch_count_26 (by decide) ?_
      exact hJ2 _ 0 (lv_sub hl [0, 1, 2, 3] rfl) (by rw [J_Watch_count_3, if_neg h15])
    · refine lv_aload_n hx hb d_Watch_count_17 rfl (lv_at hl 2 rfl) ?_
      refine va_get (D := (dC, dI)) (ci := 8) (v := .int (M.1 20)) (C := "CentrifugeUnit$Watch") (T := xF8) (N := 4) hx hb htt xin8 hown hK hP 0 rfl rfl 1 (by decide) (htt _ tw_176) (fun _ h9 => h9) rfl d_Watch_count_18 ?_
      refine lv_iconst (v := 1) hx hb d_Watch_count_21 (by decide) ?_
      refine lv_iadd hx hb d_Watch_count_22 ?_
      refine lv_goto (tgt := 27) hx hb d_Watch_count_23 rfl ?_
      exact hJ2 _ ((M.1 20) + 1) (lv_sub hl [0, 1, 2, 3] rfl) (by rw [J_Watch_count_3, if_pos h15])
  · refine va_put (D := (dC, dI)) (ci := 8) (v := .int j1) (ty := .int) (C := "CentrifugeUnit$Watch") (T := xF8) (N := 4) hx hb htt xin8 xT8 xTo8 xNm8 hown hK hP hD hS 0 rfl rfl 1 (by decide) (htt _ tw_176) (fun _ h9 => h9) rfl (by decide +kernel) rfl rfl (Nat.le_of_ble_eq_true rfl) d_Watch_count_27 (fun H locs hP hD hS => ?_)
    have hP : va_P (dC, dI) xcl [(A 18, .inr (8, [.int (M.1 19), .int j1, .int (M.1 21), .int (M.1 22)])), (A 11, .inr (7, [.int (M.1 2), .int (M.1 3), .int (M.1 4), .int (M.1 5), .int (M.1 6), .int (M.1 7)]))] H := hP
    have hD : va_D AA [(A 18, .inr (8, [.int (M.1 19), .int j1, .int (M.1 21), .int (M.1 22)])), (A 11, .inr (7, [.int (M.1 2), .int (M.1 3), .int (M.1 4), .int (M.1 5), .int (M.1 6), .int (M.1 7)]))] := hD
    refine lv_aload_n hx hb d_Watch_count_30 rfl (lv_at hl 2 rfl) ?_
    refine lv_aload_n hx hb d_Watch_count_31 rfl (lv_at hl 2 rfl) ?_
    refine va_get (D := (dC, dI)) (ci := 8) (v := .int (M.1 19)) (C := "CentrifugeUnit$Watch") (T := xF8) (N := 4) hx hb htt xin8 hown hK hP 0 rfl rfl 0 (by decide) (htt _ tw_174) (fun _ h9 => h9) rfl d_Watch_count_32 ?_
    refine lv_sipush (v := 200) hx hb d_Watch_count_35 (by decide) ?_
    refine lv_iload_n hx hb d_Watch_count_38 rfl (lv_at hl 1 rfl) ?_
    refine lv_bipush (v := 20) hx hb d_Watch_count_39 (by decide) ?_
    refine lv_idiv hx hb d_Watch_count_41 (by decide) ?_
    refine lv_iadd hx hb d_Watch_count_42 ?_
    refine xj_p 4 56 (fun q9 : Int32 => [(3, .int ((M.1 6) - (M.1 7))), (2, .int (M.1 6)), (0, .ref (A 18)), (1, .ref (A 11))]) (fun q9 : Int32 => [.int q9, .ref (A 18)]) (fun q9 : Int32 => q9 = J_Watch_count_7 M j1) (fun hJ6 => ?_) (fun ls j5 hl hj5 => ?_)
    · refine lv_icmp_le (tgt := 55) hx hb d_Watch_count_43 rfl (fun h14 => ?_) (fun h14 => ?_)
      · refine lv_iconst (v := 0) hx hb d_Watch_count_55 (by decide) ?_
        exact hJ6 _ 0 (lv_sub hl [0, 1, 2, 3] rfl) (by rw [J_Watch_count_7, if_pos h14])
      · refine lv_aload_n hx hb d_Watch_count_46 rfl (lv_at hl 2 rfl) ?_
        refine va_get (D := (dC, dI)) (ci := 8) (v := .int (M.1 21)) (C := "CentrifugeUnit$Watch") (T := xF8) (N := 4) hx hb htt xin8 hown hK hP 0 rfl rfl 2 (by decide) (htt _ tw_177) (fun _ h9 => h9) rfl d_Watch_count_47 ?_
        refine lv_iconst (v := 1) hx hb d_Watch_count_50 (by decide) ?_
        refine lv_iadd hx hb d_Watch_count_51 ?_
        refine lv_goto (tgt := 56) hx hb d_Watch_count_52 rfl ?_
        exact hJ6 _ ((M.1 21) + 1) (lv_sub hl [0, 1, 2, 3] rfl) (by rw [J_Watch_count_7, if_neg h14])
    · refine va_put (D := (dC, dI)) (ci := 8) (v := .int j5) (ty := .int) (C := "CentrifugeUnit$Watch") (T := xF8) (N := 4) hx hb htt xin8 xT8 xTo8 xNm8 hown hK hP hD hS 0 rfl rfl 2 (by decide) (htt _ tw_177) (fun _ h9 => h9) rfl (by decide +kernel) rfl rfl (Nat.le_of_ble_eq_true rfl) d_Watch_count_56 (fun H locs hP hD hS => ?_)
      have hP : va_P (dC, dI) xcl [(A 18, .inr (8, [.int (M.1 19), .int j1, .int j5, .int (M.1 22)])), (A 11, .inr (7, [.int (M.1 2), .int (M.1 3), .int (M.1 4), .int (M.1 5), .int (M.1 6), .int (M.1 7)]))] H := hP
      have hD : va_D AA [(A 18, .inr (8, [.int (M.1 19), .int j1, .int j5, .int (M.1 22)])), (A 11, .inr (7, [.int (M.1 2), .int (M.1 3), .int (M.1 4), .int (M.1 5), .int (M.1 6), .int (M.1 7)]))] := hD
      refine lv_aload_n hx hb d_Watch_count_59 rfl (lv_at hl 2 rfl) ?_
      refine lv_iload_n hx hb d_Watch_count_60 rfl (lv_at hl 0 rfl) ?_
      refine lv_bipush (v := 100) hx hb d_Watch_count_61 (by decide) ?_
      refine lv_iload_n hx hb d_Watch_count_63 rfl (lv_at hl 1 rfl) ?_
      refine lv_bipush (v := 10) hx hb d_Watch_count_64 (by decide) ?_
      refine lv_idiv hx hb d_Watch_count_66 (by decide) ?_
      refine lv_iadd hx hb d_Watch_count_67 ?_
      refine xj_p 4 81 (fun q9 : Int32 => [(3, .int ((M.1 6) - (M.1 7))), (2, .int (M.1 6)), (0, .ref (A 18)), (1, .ref (A 11))]) (fun q9 : Int32 => [.int q9, .ref (A 18)]) (fun q9 : Int32 => q9 = J_Watch_count_11 M j1 j5) (fun hJ10 => ?_) (fun ls j9 hl hj9 => ?_)
      · refine lv_icmp_le (tgt := 80) hx hb d_Watch_count_68 rfl (fun h13 => ?_) (fun h13 => ?_)
        · refine lv_iconst (v := 0) hx hb d_Watch_count_80 (by decide) ?_
          exact hJ10 _ 0 (lv_sub hl [0, 1, 2, 3] rfl) (by rw [J_Watch_count_11, if_pos h13])
        · refine lv_aload_n hx hb d_Watch_count_71 rfl (lv_at hl 2 rfl) ?_
          refine va_get (D := (dC, dI)) (ci := 8) (v := .int (M.1 22)) (C := "CentrifugeUnit$Watch") (T := xF8) (N := 4) hx hb htt xin8 hown hK hP 0 rfl rfl 3 (by decide) (htt _ tw_178) (fun _ h9 => h9) rfl d_Watch_count_72 ?_
          refine lv_iconst (v := 1) hx hb d_Watch_count_75 (by decide) ?_
          refine lv_iadd hx hb d_Watch_count_76 ?_
          refine lv_goto (tgt := 81) hx hb d_Watch_count_77 rfl ?_
          exact hJ10 _ ((M.1 22) + 1) (lv_sub hl [0, 1, 2, 3] rfl) (by rw [J_Watch_count_11, if_neg h13])
      · refine va_put (D := (dC, dI)) (ci := 8) (v := .int j9) (ty := .int) (C := "CentrifugeUnit$Watch") (T := xF8) (N := 4) hx hb htt xin8 xT8 xTo8 xNm8 hown hK hP hD hS 0 rfl rfl 3 (by decide) (htt _ tw_178) (fun _ h9 => h9) rfl (by decide +kernel) rfl rfl (Nat.le_of_ble_eq_true rfl) d_Watch_count_81 (fun H locs hP hD hS => ?_)
        have hP : va_P (dC, dI) xcl [(A 18, .inr (8, [.int (M.1 19), .int j1, .int j5, .int j9])), (A 11, .inr (7, [.int (M.1 2), .int (M.1 3), .int (M.1 4), .int (M.1 5), .int (M.1 6), .int (M.1 7)]))] H := hP
        have hD : va_D AA [(A 18, .inr (8, [.int (M.1 19), .int j1, .int j5, .int j9])), (A 11, .inr (7, [.int (M.1 2), .int (M.1 3), .int (M.1 4), .int (M.1 5), .int (M.1 6), .int (M.1 7)]))] := hD
        have hP9 := hP.sub (ws' := [(A 18, xc18 Z A (ap_Watch_count M (j1, j5, j9))), (A 11, xc11 Z A (ap_Watch_count M (j1, j5, j9)))]) [0, 1] rfl
        have hD9 := hD.sub (ws' := [(A 18, xc18 Z A (ap_Watch_count M (j1, j5, j9))), (A 11, xc11 Z A (ap_Watch_count M (j1, j5, j9)))]) [0, 1] (by decide) rfl
        exact W.vret hx hb hr (fun t ht hW => ⟨⟨(j1, j5, j9), rfl, (by rw [F_Watch_count, ← hj1, F_Watch_count_k4, ← hj5, F_Watch_count_k8, ← hj9, F_Watch_count_k12]), xE_at hP9 hK hD9 ht hW⟩, hS.F ht⟩) hS.2.2 d_Watch_count_84
abbrev bc_U_within : ByteArray := prog_1_method_19_code
def y_U_within : MethodName := ⟨"CentrifugeUnit", "within", "(III)Z"⟩
theorem d_U_within_0 : decode bc_U_within 0 = .ok (.iload_n 0, 1) := by decide +kernel
theorem d_U_within_1 : decode bc_U_within 1 = .ok (.iload_n 1, 1) := by decide +kernel
theorem d_U_within_2 : decode bc_U_within 2 = .ok (.if_icmp .lt 12, 3) := by decide +kernel
theorem d_U_within_5 : decode bc_U_within 5 = .ok (.iload_n 0, 1) := by decide +kernel
theorem d_U_within_6 : decode bc_U_within 6 = .ok (.iload_n 2, 1) := by decide +kernel
theorem d_U_within_7 : decode bc_U_within 7 = .ok (.if_icmp .gt 7, 3) := by decide +kernel
theorem d_U_within_10 : decode bc_U_within 10 = .ok (.iconst 1, 1) := by decide +kernel
theorem d_U_within_11 : decode bc_U_within 11 = .ok (.goto 4, 3) := by decide +kernel
theorem d_U_within_14 : decode bc_U_within 14 = .ok (.iconst 0, 1) := by decide +kernel
theorem d_U_within_15 : decode bc_U_within 15 = .ok (.ireturn, 1) := by decide +kernel
def F_U_within (M : XM) (a1 : Int32) (a2 : Int32) (a3 : Int32) : Int32 := (if a1 < a2 then 0 else (if a3 < a1 then 0 else 1))
theorem f01_U_within (M : XM) (a1 : Int32) (a2 : Int32) (a3 : Int32) : F_U_within M a1 a2 a3 = 0 ∨ F_U_within M a1 a2 a3 = 1 := by
  simp only [F_U_within]; repeat' split
  all_goals first | exact Or.inl rfl | exact Or.inr rfl | simp
set_option maxHeartbeats 4000000 in
set_option maxRecDepth 100000 in
theorem c_U_within (l : Launch) (dC : Nat → ClassId) (dI : Nat → Nat → Nat) (Z : Nat → ClassId) (A : Nat → Nat) (sz : Nat) (M : XM) (a1 : Int32) (a2 : Int32) (a3 : Int32) : Met l y_U_within (.code y_U_within bc_U_within 3 (some .boolean) :: xw) ({ frames := 0, cells := 0, slots := 0, locals := 0 }) (va_Pc [.int a1, .int a2, .int a3] (xB (dC, dI) xcl (xty Z) sz [])) (k2_QcV (.int (F_U_within M a1 a2 a3))) 0 0 (fun _ => False) := by
  refine Met.ofW (cc := bc_U_within) (maxL := 3) (ret := (some .boolean)) (by decide) rfl ?_
  intro p e s m args below meth c s₁ B hml hv
  obtain ⟨rfl, hsz, hP, hK, hD0, hq⟩ := hv
  have hx := B.exec
  have hb := B.bytes
  have hr := B.returns
  have hts := atoms_spec (ws := (.code y_U_within bc_U_within 3 (some .boolean) :: xw)) B.pre
  have htt : ∀ w ∈ xw, w.before _ s = true := fun w h => hts w (List.mem_cons_of_mem _ h)
  have hown : s.vm.findClass "CentrifugeUnit" = some m.cls := findClass_of_methodNamed B.named
  have hlocks := B.notSynchronized
  subst hsz
  have hD : va_D (fun _ => True) [] := hD0
  have hP : va_P (dC, dI) xcl [] s.heap := hP
  have hl := lv_entry ([.int a1, .int a2, .int a3]) (n := 3) (Nat.le_of_ble_eq_true rfl)
  rw [lg_entry_eq]
  generalize (lg_sl ([.int a1, .int a2, .int a3]) ++ List.replicate (3 - (lg_sl ([.int a1, .int a2, .int a3])).length) Slot.unset).toArray = ls at hl ⊢
  have hl : lv_has ls 3 [(0, .int a1), (1, .int a2), (2, .int a3)] := hl
  refine lv_iload_n hx hb d_U_within_0 rfl (lv_at hl 0 rfl) ?_
  refine lv_iload_n hx hb d_U_within_1 rfl (lv_at hl 1 rfl) ?_
  refine lv_icmp_lt (tgt := 14) hx hb d_U_within_2 rfl (fun h1 => ?_) (fun h1 => ?_)
  · refine lv_iconst (v := 0) hx hb d_U_within_14 (by decide) ?_
    exact W.zret (ty := .boolean) hx hb hr rfl (fun t ht hW => ⟨(by rw [F_U_within, if_pos h1]), ht⟩) (fun _ h => absurd h List.not_mem_nil) d_U_within_15
  · refine lv_iload_n hx hb d_U_within_5 rfl (lv_at hl 0 rfl) ?_
    refine lv_iload_n hx hb d_U_within_6 rfl (lv_at hl 2 rfl) ?_
    refine lv_icmp_gt (tgt := 14) hx hb d_U_within_7 rfl (fun h2 => ?_) (fun h2 => ?_)
    · refine lv_iconst (v := 0) hx hb d_U_within_14 (by decide) ?_
      exact W.zret (ty := .boolean) hx hb hr rfl (fun t ht hW => ⟨(by rw [F_U_within, if_neg h1, if_pos h2]), ht⟩) (fun _ h => absurd h List.not_mem_nil) d_U_within_15
    · refine lv_iconst (v := 1) hx hb d_U_within_10 (by decide) ?_
      refine lv_goto (tgt := 15) hx hb d_U_within_11 rfl ?_
      exact W.zret (ty := .boolean) hx hb hr rfl (fun t ht hW => ⟨(by rw [F_U_within, if_neg h1, if_neg h2]), ht⟩) (fun _ h => absurd h List.not_mem_nil) d_U_within_15
abbrev bc_Rotors_exists : ByteArray := prog_7_method_2_code
def y_Rotors_exists : MethodName := ⟨"CentrifugeUnit$Rotors", "exists", "(I)Z"⟩
theorem d_Rotors_exists_0 : decode bc_Rotors_exists 0 = .ok (.iload_n 0, 1) := by decide +kernel
theorem d_Rotors_exists_1 : decode bc_Rotors_exists 1 = .ok (.iconst 0, 1) := by decide +kernel
theorem d_Rotors_exists_2 : decode bc_Rotors_exists 2 = .ok (.iconst 3, 1) := by decide +kernel
theorem d_Rotors_exists_3 : decode bc_Rotors_exists 3 = .ok (.invokestatic 34, 3) := by decide +kernel
theorem d_Rotors_exists_6 : decode bc_Rotors_exists 6 = .ok (.ireturn, 1) := by decide +kernel
def F_Rotors_exists_k2 (M : XM) (a1 : Int32) (z1 : Int32) : Int32 := z1
def F_Rotors_exists (M : XM) (a1 : Int32) : Int32 := (F_Rotors_exists_k2 M a1 (F_U_within M a1 0 3))
theorem f01_Rotors_exists (M : XM) (a1 : Int32) : F_Rotors_exists M a1 = 0 ∨ F_Rotors_exists M a1 = 1 := by
  unfold F_Rotors_exists; simp only [F_Rotors_exists_k2]; exact f01_U_within M a1 0 3
set_option maxHeartbeats 4000000 in
set_option maxRecDepth 100000 in
theorem c_Rotors_exists (l : Launch) (dC : Nat → ClassId) (dI : Nat → Nat → Nat) (Z : Nat → ClassId) (A : Nat → Nat) (sz : Nat) (M : XM) (a1 : Int32) : Met l y_Rotors_exists (.code y_Rotors_exists bc_Rotors_exists 1 (some .boolean) :: xw) ({ frames := 1, cells := 0, slots := 0, locals := 22 }) (va_Pc [.int a1] (xB (dC, dI) xcl (xty Z) sz [])) (k2_QcV (.int (F_Rotors_exists M a1))) 0 0 (fun _ => False) := by
  refine Met.ofW (cc := bc_Rotors_exists) (maxL := 1) (ret := (some .boolean)) (by decide) rfl ?_
  intro p e s m args below meth c s₁ B hml hv
  obtain ⟨rfl, hsz, hP, hK, hD0, hq⟩ := hv
  have hx := B.exec
  have hb := B.bytes
  have hr := B.returns
  have hts := atoms_spec (ws := (.code y_Rotors_exists bc_Rotors_exists 1 (some .boolean) :: xw)) B.pre
  have htt : ∀ w ∈ xw, w.before _ s = true := fun w h => hts w (List.mem_cons_of_mem _ h)
  have hown : s.vm.findClass "CentrifugeUnit$Rotors" = some m.cls := findClass_of_methodNamed B.named
  have hlocks := B.notSynchronized
  subst hsz
  have hD : va_D (fun _ => True) [] := hD0
  have hP : va_P (dC, dI) xcl [] s.heap := hP
  have hl := lv_entry ([.int a1]) (n := 1) (Nat.le_of_ble_eq_true rfl)
  rw [lg_entry_eq]
  generalize (lg_sl ([.int a1]) ++ List.replicate (1 - (lg_sl ([.int a1])).length) Slot.unset).toArray = ls at hl ⊢
  have hl : lv_has ls 1 [(0, .int a1)] := hl
  refine lv_iload_n hx hb d_Rotors_exists_0 rfl (lv_at hl 0 rfl) ?_
  refine lv_iconst (v := 0) hx hb d_Rotors_exists_1 (by decide) ?_
  refine lv_iconst (v := 3) hx hb d_Rotors_exists_2 (by decide) ?_
  have hPc := hP.sub (ws' := []) [] rfl
  have hDc := hD.sub (ws' := []) [] (by decide) rfl
  refine xk_p (va_runSN (As := [.int a1, .int 0, .int 3]) (rest := []) ⟨hx, hb, hml, hown, hts⟩ (c_U_within l dC dI Z A s.heap.size M a1 0 3) ⟨va_cnB 3 hts (xw_call _ tw_327) rfl rfl rfl (hq.1 ("CentrifugeUnit$Rotors", 34, y_U_within, "CentrifugeUnit") (by decide +kernel)) (htt _ tw_1) (by decide +kernel) ⟨Nat.le_of_ble_eq_true rfl, Nat.le_of_ble_eq_true rfl⟩, htt _ tw_326, trivial⟩ ⟨xB_blind, fun U hU hW => ⟨rfl, xB_at hPc hK hDc hq U hU hW⟩⟩ rfl rfl hl.1 rfl (lv_room (Nat.le_of_ble_eq_true rfl)) d_Rotors_exists_3 ⟨Nat.le_of_ble_eq_true rfl, Nat.le_of_ble_eq_true rfl⟩) ?_
  refine lv_topi (fun z1 hz1 => ?_)
  exact W.zret (ty := .boolean) hx hb hr (xz_nar (by rw [hz1]; exact f01_U_within M a1 0 3)) (fun t ht hW => ⟨(by rw [F_Rotors_exists, ← hz1, F_Rotors_exists_k2]), ht⟩) (fun _ h => absurd h List.not_mem_nil) d_Rotors_exists_6
end
